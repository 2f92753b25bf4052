theorem rc_no {α : Type} {a b : Int32} {x y : α} (h : ¬ (a = 1 ∧ b = 2)) : (if a = 1 then (if b = 2 then x else y) else y) = y := by
  split
  · next e => rw [if_neg (fun c => h ⟨e, c⟩)]
  · rfl
set_option maxHeartbeats 4000000 in
theorem cx_reach (E : xa_EV) {L : List Nat} {T : xa_AH} {R : xa_AR} {nh ns k : Nat} {pw : Nat → Nat} {S : xa_AH} (hX : RX nh ns k pw L T R S) (h s : Int32) : xa_Ct E mX7_reach [.ref (ci 0 129), .int h, .int s] L T R (PX nh ns k pw L (.int (xm_reach nh ns S h s).1) (xm_reach nh ns S h s).2) := by
  refine xa_Ct.of [some (.ref (ci 0 129)), some (.int h), some (.int s), none, none] rfl (Nat.le_of_ble_eq_true rfl) (by simp [Value.category]) rfl ?_
  have n12 := hX.n12
  have n32 := hX.n32
  refine xa_aload_n (pc := 0) dX7_reach_0 rfl ?_
  refine xa_iload_n (pc := 1) dX7_reach_1 rfl ?_
  refine xa_callV (pc := 2) hX.c_m129 (kd_129 _) rfl lcX7_100 dX7_reach_2 (cx_hostAt E hX _) rfl rfl (by decide) (Nat.le_of_ble_eq_true rfl) (by decide) ?_
  rintro _ _ _ ⟨⟨hq2, rfl⟩ | ⟨hq2, rfl⟩, rfl, rfl⟩
  · refine xa_astore_n (pc := 5) dX7_reach_5 (by decide) ?_
    refine xa_aload_n (pc := 6) dX7_reach_6 rfl ?_
    refine xa_iload_n (pc := 7) dX7_reach_7 rfl ?_
    refine xa_callV (pc := 8) hX.c_m129 (kd_129 _) rfl lcX7_188 dX7_reach_8 (cx_serviceAt E hX _) rfl rfl (by decide) (Nat.le_of_ble_eq_true rfl) (by decide) ?_
    rintro _ _ _ ⟨⟨hq8, rfl⟩ | ⟨hq8, rfl⟩, rfl, rfl⟩
    · refine xa_astore (pc := 11) dX7_reach_11 (by decide) ?_
      refine xa_aload_n (pc := 13) dX7_reach_13 rfl ?_
      refine xa_ifnull_ref (pc := 14) dX7_reach_14 ?_
      refine xa_aload (pc := 17) dX7_reach_17 rfl ?_
      refine xa_ifnull_ref (pc := 19) dX7_reach_19 ?_
      have hv2 := (xm_isH_t hX.s100).mp hq8
      have hb2 : xc s < ns := xa_in_lt hv2
      have hb1 : xc h < nh := isH_lt hX.h100 hq2
      refine xa_aload_n (pc := 22) dX7_reach_22 rfl ?_
      refine xa_getA (pc := 23) 3 4 (ci (xc h) 1) lfX7_134 dX7_reach_23 ((hX.hS (isH_lt hX.h100 hq2)).1 0 (by decide)) (kd_0 _) rfl ((hX.hS (isH_lt hX.h100 hq2)).2 (0, 4, 1) (by decide)) ?_
      refine xa_iload_n (pc := 26) dX7_reach_26 rfl ?_
      refine xa_callV (pc := 27) ((hX.hS (isH_lt hX.h100 hq2)).1 1 (by decide)) (kd_1 _) rfl lcX7_191 dX7_reach_27 (rq_has E hX (isH_lt hX.h100 hq2) (s := (xc s)) (xa_in_eq hv2) (by omega)) rfl rfl (by decide) (Nat.le_of_ble_eq_true rfl) (by decide) ?_
      rintro _ _ _ ⟨rfl, rfl, rfl⟩
      refine xa_if_ne (pc := 30) 35 dX7_reach_30 (by decide) (fun h30 => ?_) (fun h30 => ?_)
      · have h30 := xa_b_n0.mp h30
        refine xa_aload_n (pc := 35) dX7_reach_35 rfl ?_
        refine xa_getIv (pc := 36) 3 8 _ lfX7_95 dX7_reach_36 ((hX.hS (isH_lt hX.h100 hq2)).1 0 (by decide)) (kd_0 _) rfl (hX.h_state (isH_lt hX.h100 hq2)) ?_
        refine xa_iconst (pc := 39) (v := 2) dX7_reach_39 (by decide) ?_
        refine xa_icmp_eq (pc := 40) 53 dX7_reach_40 (by decide) (fun h40 => ?_) (fun h40 => ?_)
        · refine xa_aload (pc := 53) dX7_reach_53 rfl ?_
          refine xa_getIv (pc := 55) 5 7 _ lfX7_59 dX7_reach_55 (hX.sM (isH_lt hX.s100 hq8)) (kd_128 _) rfl (hX.s_state (isH_lt hX.s100 hq8)) ?_
          refine xa_iconst (pc := 58) (v := 2) dX7_reach_58 (by decide) ?_
          refine xa_icmp_ne (pc := 59) 79 dX7_reach_59 (by decide) (fun h59 => ?_) (fun h59 => ?_)
          · refine xa_iconst (pc := 79) (v := 0) dX7_reach_79 (by decide) ?_
            rw [show xm_reach nh ns S h s = _ from if_pos (by simp [xm_aw, hq2, hq8, (xs_aw hX hb1).mpr (Or.inl h40), of_decide_eq_true h30]), show xm_rch S h s = _ by unfold xm_rch; rw [if_neg h59]]
            exact xa_zret dX7_reach_80 rfl rfl ⟨rfl, hX⟩
          · refine xa_aload (pc := 62) dX7_reach_62 rfl ?_
            refine xa_getIv (pc := 64) 5 5 _ lfX7_201 dX7_reach_64 (hX.sM (isH_lt hX.s100 hq8)) (kd_128 _) rfl (hX.s_name (isH_lt hX.s100 hq8)) ?_
            refine xa_aload_n (pc := 67) dX7_reach_67 rfl ?_
            refine xa_getA (pc := 68) 3 4 (ci (xc h) 1) lfX7_134 dX7_reach_68 ((hX.hS (isH_lt hX.h100 hq2)).1 0 (by decide)) (kd_0 _) rfl ((hX.hS (isH_lt hX.h100 hq2)).2 (0, 4, 1) (by decide)) ?_
            refine xa_getA (pc := 71) 6 0 (ci (xc h) 2) lfX7_184 dX7_reach_71 ((hX.hS (isH_lt hX.h100 hq2)).1 1 (by decide)) (kd_1 _) rfl ((hX.hS (isH_lt hX.h100 hq2)).2 (1, 0, 2) (by decide)) ?_
            refine xa_iload_n (pc := 74) dX7_reach_74 rfl ?_
            refine xa_ialdC (pc := 75) (xc s) _ dX7_reach_75 ((hX.hS (isH_lt hX.h100 hq2)).1 2 (by decide)) (kd_2 _) (ln_2 _) (xa_in_eq hv2) (by omega) (by decide) (hX.r_name (isH_lt hX.h100 hq2) (by omega)) ?_
            refine xa_icmp_eq (pc := 76) 81 dX7_reach_76 (by decide) (fun h76 => ?_) (fun h76 => ?_)
            · refine xa_aload (pc := 81) dX7_reach_81 rfl ?_
              refine xa_getA (pc := 83) 5 1 (ci (xc (S 146 (xc s))) 0) lfX7_106 dX7_reach_83 (hX.sM (isH_lt hX.s100 hq8)) (kd_128 _) rfl (hX.s_host (isH_lt hX.s100 hq8)) ?_
              refine xa_getIv (pc := 86) 3 8 _ lfX7_95 dX7_reach_86 ((hX.hS (hX.hO (isH_lt hX.s100 hq8))).1 0 (by decide)) (kd_0 _) rfl (hX.h_state (hX.hO (isH_lt hX.s100 hq8))) ?_
              refine xa_iconst (pc := 89) (v := 2) dX7_reach_89 (by decide) ?_
              refine xa_icmp_ne (pc := 90) 95 dX7_reach_90 (by decide) (fun h90 => ?_) (fun h90 => ?_)
              · have nw : ¬ S 136 (xc (S 146 (xc s))) = 2 := fun g => h90 (xs2.mpr ⟨g, by rcases hX.ih_lv (hX.hO hb2) with e | e <;> first | exact e | exact absurd (hX.is_lv hb2 (by rw [e.1]; decide)) (by rw [h59]; decide)⟩)
                refine xa_aload_n (pc := 95) dX7_reach_95 rfl ?_
                refine xa_aload (pc := 96) dX7_reach_96 rfl ?_
                refine xa_getA (pc := 98) 5 1 (ci (xc (S 146 (xc s))) 0) lfX7_106 dX7_reach_98 (hX.sM (isH_lt hX.s100 hq8)) (kd_128 _) rfl (hX.s_host (isH_lt hX.s100 hq8)) ?_
                refine xa_callV (pc := 101) hX.c_m129 (kd_129 _) rfl lcX7_210 dX7_reach_101 (cx_hasProxyAwake E hX (hX.hO (isH_lt hX.s100 hq8))) rfl rfl (by decide) (Nat.le_of_ble_eq_true rfl) (by decide) ?_
                rintro _ _ _ ⟨rfl, rfl, rfl⟩
                refine xa_if_ne (pc := 104) 109 dX7_reach_104 (by decide) (fun h104 => ?_) (fun h104 => ?_)
                · have h104 := xa_b_n0.mp h104
                  have pa := (pa_e hX (hX.hO hb2)).mp h104
                  refine xa_aload_n (pc := 109) dX7_reach_109 rfl ?_
                  refine xa_aload (pc := 110) dX7_reach_110 rfl ?_
                  refine xa_getA (pc := 112) 5 1 (ci (xc (S 146 (xc s))) 0) lfX7_106 dX7_reach_112 (hX.sM (isH_lt hX.s100 hq8)) (kd_128 _) rfl (hX.s_host (isH_lt hX.s100 hq8)) ?_
                  refine xa_callV (pc := 115) hX.c_m129 (kd_129 _) rfl lcX7_118 dX7_reach_115 (cx_rouse E hX (hX.hO (isH_lt hX.s100 hq8))) rfl rfl (by decide) (Nat.le_of_ble_eq_true rfl) (by decide) ?_
                  rintro _ _ _ ⟨rfl, rfl, hX2, _⟩
                  refine xa_iconst (pc := 118) (v := 2) dX7_reach_118 (by decide) ?_
                  rw [show xm_reach nh ns S h s = _ from if_pos (by simp [xm_aw, hq2, hq8, (xs_aw hX hb1).mpr (Or.inl h40), of_decide_eq_true h30]), show xm_rch S h s = _ by unfold xm_rch; rw [if_pos h59, if_pos h76, if_neg nw, if_pos pa.1, if_pos pa.2]]
                  rw [show xm_yl4 S (xc (S 146 (xc s))) = _ from if_pos pa.1] at hX2
                  exact xa_zret dX7_reach_119 rfl rfl ⟨rfl, hX2⟩
                · have h104 := xa_b_0.mp h104
                  have npa : ¬ (S 136 (xc (S 146 (xc s))) = 1 ∧ S 136 (xc (S 141 (xc (S 146 (xc s))))) = 2) := fun c => by rw [(pa_e hX (hX.hO hb2)).mpr c] at h104; cases h104
                  refine xa_iconst (pc := 107) (v := 0) dX7_reach_107 (by decide) ?_
                  rw [show xm_reach nh ns S h s = _ from if_pos (by simp [xm_aw, hq2, hq8, (xs_aw hX hb1).mpr (Or.inl h40), of_decide_eq_true h30]), show xm_rch S h s = _ by unfold xm_rch; rw [if_pos h59, if_pos h76, if_neg nw, rc_no npa]]
                  exact xa_zret dX7_reach_108 rfl rfl ⟨rfl, hX⟩
              · refine xa_iconst (pc := 93) (v := 1) dX7_reach_93 (by decide) ?_
                rw [show xm_reach nh ns S h s = _ from if_pos (by simp [xm_aw, hq2, hq8, (xs_aw hX hb1).mpr (Or.inl h40), of_decide_eq_true h30]), show xm_rch S h s = _ by unfold xm_rch; rw [if_pos h59, if_pos h76, if_pos (xs2.mp h90).1]]
                exact xa_zret dX7_reach_94 rfl rfl ⟨rfl, hX⟩
            · refine xa_iconst (pc := 79) (v := 0) dX7_reach_79 (by decide) ?_
              rw [show xm_reach nh ns S h s = _ from if_pos (by simp [xm_aw, hq2, hq8, (xs_aw hX hb1).mpr (Or.inl h40), of_decide_eq_true h30]), show xm_rch S h s = _ by unfold xm_rch; rw [if_pos h59, if_neg h76]]
              exact xa_zret dX7_reach_80 rfl rfl ⟨rfl, hX⟩
        · refine xa_aload_n (pc := 43) dX7_reach_43 rfl ?_
          refine xa_getIv (pc := 44) 3 8 _ lfX7_95 dX7_reach_44 ((hX.hS (isH_lt hX.h100 hq2)).1 0 (by decide)) (kd_0 _) rfl (hX.h_state (isH_lt hX.h100 hq2)) ?_
          refine xa_iconst (pc := 47) (v := 3) dX7_reach_47 (by decide) ?_
          refine xa_icmp_eq (pc := 48) 53 dX7_reach_48 (by decide) (fun h48 => ?_) (fun h48 => ?_)
          · refine xa_aload (pc := 53) dX7_reach_53 rfl ?_
            refine xa_getIv (pc := 55) 5 7 _ lfX7_59 dX7_reach_55 (hX.sM (isH_lt hX.s100 hq8)) (kd_128 _) rfl (hX.s_state (isH_lt hX.s100 hq8)) ?_
            refine xa_iconst (pc := 58) (v := 2) dX7_reach_58 (by decide) ?_
            refine xa_icmp_ne (pc := 59) 79 dX7_reach_59 (by decide) (fun h59 => ?_) (fun h59 => ?_)
            · refine xa_iconst (pc := 79) (v := 0) dX7_reach_79 (by decide) ?_
              rw [show xm_reach nh ns S h s = _ from if_pos (by simp [xm_aw, hq2, hq8, (xs_aw hX hb1).mpr (Or.inr h48), of_decide_eq_true h30]), show xm_rch S h s = _ by unfold xm_rch; rw [if_neg h59]]
              exact xa_zret dX7_reach_80 rfl rfl ⟨rfl, hX⟩
            · refine xa_aload (pc := 62) dX7_reach_62 rfl ?_
              refine xa_getIv (pc := 64) 5 5 _ lfX7_201 dX7_reach_64 (hX.sM (isH_lt hX.s100 hq8)) (kd_128 _) rfl (hX.s_name (isH_lt hX.s100 hq8)) ?_
              refine xa_aload_n (pc := 67) dX7_reach_67 rfl ?_
              refine xa_getA (pc := 68) 3 4 (ci (xc h) 1) lfX7_134 dX7_reach_68 ((hX.hS (isH_lt hX.h100 hq2)).1 0 (by decide)) (kd_0 _) rfl ((hX.hS (isH_lt hX.h100 hq2)).2 (0, 4, 1) (by decide)) ?_
              refine xa_getA (pc := 71) 6 0 (ci (xc h) 2) lfX7_184 dX7_reach_71 ((hX.hS (isH_lt hX.h100 hq2)).1 1 (by decide)) (kd_1 _) rfl ((hX.hS (isH_lt hX.h100 hq2)).2 (1, 0, 2) (by decide)) ?_
              refine xa_iload_n (pc := 74) dX7_reach_74 rfl ?_
              refine xa_ialdC (pc := 75) (xc s) _ dX7_reach_75 ((hX.hS (isH_lt hX.h100 hq2)).1 2 (by decide)) (kd_2 _) (ln_2 _) (xa_in_eq hv2) (by omega) (by decide) (hX.r_name (isH_lt hX.h100 hq2) (by omega)) ?_
              refine xa_icmp_eq (pc := 76) 81 dX7_reach_76 (by decide) (fun h76 => ?_) (fun h76 => ?_)
              · refine xa_aload (pc := 81) dX7_reach_81 rfl ?_
                refine xa_getA (pc := 83) 5 1 (ci (xc (S 146 (xc s))) 0) lfX7_106 dX7_reach_83 (hX.sM (isH_lt hX.s100 hq8)) (kd_128 _) rfl (hX.s_host (isH_lt hX.s100 hq8)) ?_
                refine xa_getIv (pc := 86) 3 8 _ lfX7_95 dX7_reach_86 ((hX.hS (hX.hO (isH_lt hX.s100 hq8))).1 0 (by decide)) (kd_0 _) rfl (hX.h_state (hX.hO (isH_lt hX.s100 hq8))) ?_
                refine xa_iconst (pc := 89) (v := 2) dX7_reach_89 (by decide) ?_
                refine xa_icmp_ne (pc := 90) 95 dX7_reach_90 (by decide) (fun h90 => ?_) (fun h90 => ?_)
                · have nw : ¬ S 136 (xc (S 146 (xc s))) = 2 := fun g => h90 (xs2.mpr ⟨g, by rcases hX.ih_lv (hX.hO hb2) with e | e <;> first | exact e | exact absurd (hX.is_lv hb2 (by rw [e.1]; decide)) (by rw [h59]; decide)⟩)
                  refine xa_aload_n (pc := 95) dX7_reach_95 rfl ?_
                  refine xa_aload (pc := 96) dX7_reach_96 rfl ?_
                  refine xa_getA (pc := 98) 5 1 (ci (xc (S 146 (xc s))) 0) lfX7_106 dX7_reach_98 (hX.sM (isH_lt hX.s100 hq8)) (kd_128 _) rfl (hX.s_host (isH_lt hX.s100 hq8)) ?_
                  refine xa_callV (pc := 101) hX.c_m129 (kd_129 _) rfl lcX7_210 dX7_reach_101 (cx_hasProxyAwake E hX (hX.hO (isH_lt hX.s100 hq8))) rfl rfl (by decide) (Nat.le_of_ble_eq_true rfl) (by decide) ?_
                  rintro _ _ _ ⟨rfl, rfl, rfl⟩
                  refine xa_if_ne (pc := 104) 109 dX7_reach_104 (by decide) (fun h104 => ?_) (fun h104 => ?_)
                  · have h104 := xa_b_n0.mp h104
                    have pa := (pa_e hX (hX.hO hb2)).mp h104
                    refine xa_aload_n (pc := 109) dX7_reach_109 rfl ?_
                    refine xa_aload (pc := 110) dX7_reach_110 rfl ?_
                    refine xa_getA (pc := 112) 5 1 (ci (xc (S 146 (xc s))) 0) lfX7_106 dX7_reach_112 (hX.sM (isH_lt hX.s100 hq8)) (kd_128 _) rfl (hX.s_host (isH_lt hX.s100 hq8)) ?_
                    refine xa_callV (pc := 115) hX.c_m129 (kd_129 _) rfl lcX7_118 dX7_reach_115 (cx_rouse E hX (hX.hO (isH_lt hX.s100 hq8))) rfl rfl (by decide) (Nat.le_of_ble_eq_true rfl) (by decide) ?_
                    rintro _ _ _ ⟨rfl, rfl, hX2, _⟩
                    refine xa_iconst (pc := 118) (v := 2) dX7_reach_118 (by decide) ?_
                    rw [show xm_reach nh ns S h s = _ from if_pos (by simp [xm_aw, hq2, hq8, (xs_aw hX hb1).mpr (Or.inr h48), of_decide_eq_true h30]), show xm_rch S h s = _ by unfold xm_rch; rw [if_pos h59, if_pos h76, if_neg nw, if_pos pa.1, if_pos pa.2]]
                    rw [show xm_yl4 S (xc (S 146 (xc s))) = _ from if_pos pa.1] at hX2
                    exact xa_zret dX7_reach_119 rfl rfl ⟨rfl, hX2⟩
                  · have h104 := xa_b_0.mp h104
                    have npa : ¬ (S 136 (xc (S 146 (xc s))) = 1 ∧ S 136 (xc (S 141 (xc (S 146 (xc s))))) = 2) := fun c => by rw [(pa_e hX (hX.hO hb2)).mpr c] at h104; cases h104
                    refine xa_iconst (pc := 107) (v := 0) dX7_reach_107 (by decide) ?_
                    rw [show xm_reach nh ns S h s = _ from if_pos (by simp [xm_aw, hq2, hq8, (xs_aw hX hb1).mpr (Or.inr h48), of_decide_eq_true h30]), show xm_rch S h s = _ by unfold xm_rch; rw [if_pos h59, if_pos h76, if_neg nw, rc_no npa]]
                    exact xa_zret dX7_reach_108 rfl rfl ⟨rfl, hX⟩
                · refine xa_iconst (pc := 93) (v := 1) dX7_reach_93 (by decide) ?_
                  rw [show xm_reach nh ns S h s = _ from if_pos (by simp [xm_aw, hq2, hq8, (xs_aw hX hb1).mpr (Or.inr h48), of_decide_eq_true h30]), show xm_rch S h s = _ by unfold xm_rch; rw [if_pos h59, if_pos h76, if_pos (xs2.mp h90).1]]
                  exact xa_zret dX7_reach_94 rfl rfl ⟨rfl, hX⟩
              · refine xa_iconst (pc := 79) (v := 0) dX7_reach_79 (by decide) ?_
                rw [show xm_reach nh ns S h s = _ from if_pos (by simp [xm_aw, hq2, hq8, (xs_aw hX hb1).mpr (Or.inr h48), of_decide_eq_true h30]), show xm_rch S h s = _ by unfold xm_rch; rw [if_pos h59, if_neg h76]]
                exact xa_zret dX7_reach_80 rfl rfl ⟨rfl, hX⟩
          · refine xa_iconst (pc := 51) (v := (-1)) dX7_reach_51 (by decide) ?_
            rw [show xm_reach nh ns S h s = _ from if_neg (by simp [xm_aw, show ¬ S 136 (xc h) = 2 from fun c => ((xs_aw hX hb1).mp c).elim h40 h48])]
            exact xa_zret dX7_reach_52 rfl rfl ⟨rfl, hX⟩
      · have h30 := xa_b_0.mp h30
        refine xa_iconst (pc := 33) (v := (-1)) dX7_reach_33 (by decide) ?_
        rw [show xm_reach nh ns S h s = _ from if_neg (by simp [xm_aw, hq2, hq8, h30])]
        exact xa_zret dX7_reach_34 rfl rfl ⟨rfl, hX⟩
    · refine xa_astoreN (pc := 11) dX7_reach_11 (by decide) ?_
      refine xa_aload_n (pc := 13) dX7_reach_13 rfl ?_
      refine xa_ifnull_ref (pc := 14) dX7_reach_14 ?_
      refine xa_aloadN (pc := 17) dX7_reach_17 rfl ?_
      refine xa_ifnull_null (pc := 19) 33 dX7_reach_19 (by decide) ?_
      refine xa_iconst (pc := 33) (v := (-1)) dX7_reach_33 (by decide) ?_
      rw [show xm_reach nh ns S h s = _ from if_neg (by simp [xm_aw, hq2, hq8])]
      exact xa_zret dX7_reach_34 rfl rfl ⟨rfl, hX⟩
  · refine xa_astore_nN (pc := 5) dX7_reach_5 (by decide) ?_
    refine xa_aload_n (pc := 6) dX7_reach_6 rfl ?_
    refine xa_iload_n (pc := 7) dX7_reach_7 rfl ?_
    refine xa_callV (pc := 8) hX.c_m129 (kd_129 _) rfl lcX7_188 dX7_reach_8 (cx_serviceAt E hX _) rfl rfl (by decide) (Nat.le_of_ble_eq_true rfl) (by decide) ?_
    rintro _ _ _ ⟨⟨hq8, rfl⟩ | ⟨hq8, rfl⟩, rfl, rfl⟩
    · refine xa_astore (pc := 11) dX7_reach_11 (by decide) ?_
      refine xa_aload_nN (pc := 13) dX7_reach_13 rfl ?_
      refine xa_ifnull_null (pc := 14) 33 dX7_reach_14 (by decide) ?_
      refine xa_iconst (pc := 33) (v := (-1)) dX7_reach_33 (by decide) ?_
      rw [show xm_reach nh ns S h s = _ from if_neg (by simp [xm_aw, hq2, hq8])]
      exact xa_zret dX7_reach_34 rfl rfl ⟨rfl, hX⟩
    · refine xa_astoreN (pc := 11) dX7_reach_11 (by decide) ?_
      refine xa_aload_nN (pc := 13) dX7_reach_13 rfl ?_
      refine xa_ifnull_null (pc := 14) 33 dX7_reach_14 (by decide) ?_
      refine xa_iconst (pc := 33) (v := (-1)) dX7_reach_33 (by decide) ?_
      rw [show xm_reach nh ns S h s = _ from if_neg (by simp [xm_aw, hq2, hq8])]
      exact xa_zret dX7_reach_34 rfl rfl ⟨rfl, hX⟩
theorem so_e {nh ns k : Nat} {pw : Nat → Nat} {L : List Nat} {T : xa_AH} {R : xa_AR} {S : xa_AH} (hX : RX nh ns k pw L T R S) {s : Nat} (hs : s < ns) (net : Int32) : cq_so S s net = xm_isp nh S s net := by
  have ho := hX.hO hs
  have he := hX.hE hs
  have n12 := hX.n12
  rw [Bool.eq_iff_iff]
  unfold cq_so xm_isp
  simp only [Bool.and_eq_true, decide_eq_true_eq, Bool.or_eq_true]
  constructor
  · rintro ⟨a, b, c, d⟩
    refine ⟨a, b, xa_any_iff.mpr ?_⟩
    rcases d with d | d
    · refine ⟨xc (S 146 s), ho, ?_⟩
      have w := xs2.mp d
      simp [xm_sp1, xm_spk, a, c, w.1, ← he]
    · have w := (pa_e hX ho).mp d
      have z := hX.ih_px ho w.1
      refine ⟨xc (S 141 (xc (S 146 s))), xa_in_lt z.1, ?_⟩
      have e2 : S 141 (xc (S 146 s)) = nI (xc (S 141 (xc (S 146 s)))) := xa_in_eq z.1
      have e3 : ¬ S 146 s = nI (xc (S 141 (xc (S 146 s)))) := by
        intro e
        have q := congrArg xc e
        rw [xc_n (by have zl : xc (S 141 (xc (S 146 s))) < nh := xa_in_lt z.1; omega)] at q
        rw [← q, w.1] at w
        exact absurd w.2 (by decide)
      simp [xm_sp1, xm_spk, a, w.1, w.2, z.2.2, c, e3, ← e2]
  · rintro ⟨a, b, c⟩
    obtain ⟨h, hh, g⟩ := xa_any_iff.mp c
    simp only [xm_sp1, xm_spk, Bool.and_eq_true, decide_eq_true_eq] at g
    obtain ⟨g1, g2, g3, g4⟩ := g
    refine ⟨a, b, ?_⟩
    by_cases e : S 146 s = nI h
    · have q : xc (S 146 s) = h := by rw [e]; exact xc_n (by omega)
      rw [q]
      refine ⟨g2, Or.inl (xs2.mpr ⟨g1, ?_⟩)⟩
      rcases hX.ih_lv hh with e | e
      · exact e
      · have y := hX.is_lv hs (by rw [q, e.1]; decide)
        rw [a] at y; exact absurd y (by decide)
    · rw [if_neg e] at g4
      simp only [Bool.and_eq_true, decide_eq_true_eq] at g4
      have z := hX.ih_px ho g4.2.1
      have q : xc (S 141 (xc (S 146 s))) = h := by rw [g4.2.2]; exact xc_n (by omega)
      rw [q] at z
      exact ⟨by rw [← z.2.2]; exact g2, Or.inr ((pa_e hX ho).mpr ⟨g4.2.1, by rw [q]; exact g1⟩)⟩
set_option maxHeartbeats 4000000 in
theorem lx_tw40 (E : xa_EV) {L : List Nat} {T : xa_AH} {R : xa_AR} {nh ns k : Nat} {pw : Nat → Nat} {S : xa_AH} (hX : RX nh ns k pw L T R S) (Z : xa_ZC) (net : Int32) {a N0 : Nat} (ha : a < ns) (ha1 : xm_isp nh S a net = true) (K : xa_W E mX7_twice Z 0 0 95 [some (.ref (ci 0 129)), some (.int net), some (.int (nI (N0 + xa_ct (xm_twp nh S net a) ns))), some (.int (nI a)), none] [] L T R) : ∀ x, x ≤ ns → a < x → xa_W E mX7_twice Z 0 0 40 [some (.ref (ci 0 129)), some (.int net), some (.int (nI (N0 + xa_ct (xm_twp nh S net a) x))), some (.int (nI a)), some (.int (nI x))] [] L T R := by
  refine xa_dn (fun x hxl ih => ?_)
  intro hax
  have n12 := hX.n12
  have n32 := hX.n32
  refine xa_iload (pc := 40) dX7_twice_40 rfl ?_
  refine xa_aload_n (pc := 42) dX7_twice_42 rfl ?_
  refine xa_getIv (pc := 43) 7 3 _ lfX7_103 dX7_twice_43 hX.c_m129 (kd_129 _) rfl hX.g_ns ?_
  refine xa_icmpN_ge (pc := 46) 95 x ns dX7_twice_46 (by decide) rfl rfl (by omega) (by omega) (fun h46 => ?_) (fun h46 => ?_)
  · have g46 : ¬ (x < ns) := by omega
    have ex9 : x = ns := by omega
    subst ex9
    exact xa_fgk (K) (And.intro rfl (And.intro rfl (And.intro rfl (And.intro rfl trivial))))
  · have hlt : a < x := by omega
    refine xa_aload_n (pc := 49) dX7_twice_49 rfl ?_
    refine xa_getA (pc := 50) 7 1 (ci 0 127) lfX7_17 dX7_twice_50 hX.c_m129 (kd_129 _) rfl hX.c_r1 ?_
    refine xa_iload_n (pc := 53) dX7_twice_53 rfl ?_
    refine xa_aaldS (pc := 54) a (ci a 128) dX7_twice_54 hX.c_m127 rfl (by omega) (hX.sA (by omega)) ?_
    refine xa_getIv (pc := 55) 5 5 _ lfX7_201 dX7_twice_55 (hX.sM (by omega)) (kd_128 _) rfl (hX.s_name (by omega)) ?_
    refine xa_aload_n (pc := 58) dX7_twice_58 rfl ?_
    refine xa_getA (pc := 59) 7 1 (ci 0 127) lfX7_17 dX7_twice_59 hX.c_m129 (kd_129 _) rfl hX.c_r1 ?_
    refine xa_iload (pc := 62) dX7_twice_62 rfl ?_
    refine xa_aaldS (pc := 64) x (ci x 128) dX7_twice_64 hX.c_m127 rfl (by omega) (hX.sA (by omega)) ?_
    refine xa_getIv (pc := 65) 5 5 _ lfX7_201 dX7_twice_65 (hX.sM (by omega)) (kd_128 _) rfl (hX.s_name (by omega)) ?_
    refine xa_icmp_ne (pc := 68) 89 dX7_twice_68 (by decide) (fun h68 => ?_) (fun h68 => ?_)
    · refine xa_iinc (pc := 89) (v := nI (x + 1)) dX7_twice_89 rfl (by decide) (nI_1 _) ?_
      refine xa_goto (pc := 92) (tgt := 40) dX7_twice_92 (by decide) ?_
      exact xa_fgk (ih (by omega) (by omega)) (And.intro rfl (And.intro rfl (And.intro (congrArg (fun z => some (Value.int z)) (by rw [xa_ct, if_neg (by simp [xm_twp, h68]), ← Nat.add_assoc] <;> rfl)) (And.intro rfl (And.intro rfl trivial)))))
    · refine xa_aload_n (pc := 71) dX7_twice_71 rfl ?_
      refine xa_aload_n (pc := 72) dX7_twice_72 rfl ?_
      refine xa_getA (pc := 73) 7 1 (ci 0 127) lfX7_17 dX7_twice_73 hX.c_m129 (kd_129 _) rfl hX.c_r1 ?_
      refine xa_iload (pc := 76) dX7_twice_76 rfl ?_
      refine xa_aaldS (pc := 78) x (ci x 128) dX7_twice_78 hX.c_m127 rfl (by omega) (hX.sA (by omega)) ?_
      refine xa_iload_n (pc := 79) dX7_twice_79 rfl ?_
      refine xa_callV (pc := 80) hX.c_m129 (kd_129 _) rfl lcX7_222 dX7_twice_80 (cx_isSpokenForOn E hX (by omega) _) rfl rfl (by decide) (Nat.le_of_ble_eq_true rfl) (by decide) ?_
      rintro _ _ _ ⟨rfl, rfl, rfl⟩
      refine xa_if_eq (pc := 83) 89 dX7_twice_83 (by decide) (fun h83 => ?_) (fun h83 => ?_)
      · have h83 := xa_b_0.mp h83
        refine xa_iinc (pc := 89) (v := nI (x + 1)) dX7_twice_89 rfl (by decide) (nI_1 _) ?_
        refine xa_goto (pc := 92) (tgt := 40) dX7_twice_92 (by decide) ?_
        exact xa_fgk (ih (by omega) (by omega)) (And.intro rfl (And.intro rfl (And.intro (congrArg (fun z => some (Value.int z)) (by rw [xa_ct, if_neg (by simp [xm_twp, ← so_e hX (show x < ns by omega), h83]), ← Nat.add_assoc] <;> rfl)) (And.intro rfl (And.intro rfl trivial)))))
      · have h83 := xa_b_n0.mp h83
        refine xa_iinc (pc := 86) (v := nI ((N0 + xa_ct (xm_twp nh S net a) x) + 1)) dX7_twice_86 rfl (by decide) (nI_1 _) ?_
        refine xa_iinc (pc := 89) (v := nI (x + 1)) dX7_twice_89 rfl (by decide) (nI_1 _) ?_
        refine xa_goto (pc := 92) (tgt := 40) dX7_twice_92 (by decide) ?_
        exact xa_fgk (ih (by omega) (by omega)) (And.intro rfl (And.intro rfl (And.intro (congrArg (fun z => some (Value.int z)) (by rw [xa_ct, if_pos (by simp [xm_twp, hlt, h68, ha1, ← so_e hX (show x < ns by omega), h83]), ← Nat.add_assoc] <;> rfl)) (And.intro rfl (And.intro rfl trivial)))))
set_option maxHeartbeats 4000000 in
theorem lx_tw13 (E : xa_EV) {L : List Nat} {T : xa_AH} {R : xa_AR} {nh ns k : Nat} {pw : Nat → Nat} {S : xa_AH} (hX : RX nh ns k pw L T R S) (net : Int32) : ∀ x, x ≤ ns → xa_W E mX7_twice (xa_Z E mX7_twice L (xa_pR (.int (nI (xm_tws nh ns S net ns))) T R)) 0 0 13 [some (.ref (ci 0 129)), some (.int net), some (.int (nI (xm_tws nh ns S net x))), some (.int (nI x)), none] [] L T R := by
  refine xa_dn (fun x hxl ih => ?_)
  have n12 := hX.n12
  have n32 := hX.n32
  refine xa_iload_n (pc := 13) dX7_twice_13 rfl ?_
  refine xa_aload_n (pc := 14) dX7_twice_14 rfl ?_
  refine xa_getIv (pc := 15) 7 3 _ lfX7_103 dX7_twice_15 hX.c_m129 (kd_129 _) rfl hX.g_ns ?_
  refine xa_icmpN_ge (pc := 18) 101 x ns dX7_twice_18 (by decide) rfl rfl (by omega) (by omega) (fun h18 => ?_) (fun h18 => ?_)
  · have g18 : ¬ (x < ns) := by omega
    refine xa_iload_n (pc := 101) dX7_twice_101 rfl ?_
    have ex9 : x = ns := by omega
    subst ex9
    exact xa_zret dX7_twice_102 rfl rfl ⟨rfl, rfl, rfl⟩
  · refine xa_aload_n (pc := 21) dX7_twice_21 rfl ?_
    refine xa_aload_n (pc := 22) dX7_twice_22 rfl ?_
    refine xa_getA (pc := 23) 7 1 (ci 0 127) lfX7_17 dX7_twice_23 hX.c_m129 (kd_129 _) rfl hX.c_r1 ?_
    refine xa_iload_n (pc := 26) dX7_twice_26 rfl ?_
    refine xa_aaldS (pc := 27) x (ci x 128) dX7_twice_27 hX.c_m127 rfl (by omega) (hX.sA (by omega)) ?_
    refine xa_iload_n (pc := 28) dX7_twice_28 rfl ?_
    refine xa_callV (pc := 29) hX.c_m129 (kd_129 _) rfl lcX7_222 dX7_twice_29 (cx_isSpokenForOn E hX (by omega) _) rfl rfl (by decide) (Nat.le_of_ble_eq_true rfl) (by decide) ?_
    rintro _ _ _ ⟨rfl, rfl, rfl⟩
    refine xa_if_eq (pc := 32) 95 dX7_twice_32 (by decide) (fun h32 => ?_) (fun h32 => ?_)
    · have h32 := xa_b_0.mp h32
      refine xa_iinc (pc := 95) (v := nI (x + 1)) dX7_twice_95 rfl (by decide) (nI_1 _) ?_
      refine xa_goto (pc := 98) (tgt := 13) dX7_twice_98 (by decide) ?_
      exact xa_fgk (ih (by omega)) (And.intro rfl (And.intro rfl (And.intro (congrArg (fun z => some (Value.int (nI z))) (show xm_tws nh ns S net x = xm_tws nh ns S net (x + 1) by rw [xm_tws, ct_no (fun i hi => by simp [xm_twp, ← so_e hX (show x < ns by omega), h32])]; rfl)) (And.intro rfl trivial))))
    · have h32 := xa_b_n0.mp h32
      refine xa_iload_n (pc := 35) dX7_twice_35 rfl ?_
      refine xa_iconst (pc := 36) (v := 1) dX7_twice_36 (by decide) ?_
      refine xa_iadd (pc := 37) dX7_twice_37 ?_
      refine xa_istore (pc := 38) dX7_twice_38 (by decide) ?_
      refine xa_fgk (lx_tw40 E hX _ net (a := x) (N0 := xm_tws nh ns S net x) (by omega) (by rw [← so_e hX (by omega)]; exact h32) ?_ (x + 1) (by omega) (by omega)) (And.intro rfl (And.intro rfl (And.intro (congrArg (fun z => some (Value.int (nI z))) (show xm_tws nh ns S net x = xm_tws nh ns S net x + xa_ct (xm_twp nh S net x) (x + 1) by rw [ct_no (fun i hi => by simp [xm_twp]; omega)]; rfl)) (And.intro rfl (And.intro (congrArg (fun z => some (Value.int z)) (xa_pa rfl rfl)) trivial)))))
      refine xa_iinc (pc := 95) (v := nI (x + 1)) dX7_twice_95 rfl (by decide) (nI_1 _) ?_
      refine xa_goto (pc := 98) (tgt := 13) dX7_twice_98 (by decide) ?_
      exact xa_fgk (ih (by omega)) (And.intro rfl (And.intro rfl (And.intro rfl (And.intro rfl trivial))))
set_option maxHeartbeats 4000000 in
theorem cx_twice (E : xa_EV) {L : List Nat} {T : xa_AH} {R : xa_AR} {nh ns k : Nat} {pw : Nat → Nat} {S : xa_AH} (hX : RX nh ns k pw L T R S) (net : Int32) : xa_Ct E mX7_twice [.ref (ci 0 129), .int net] L T R (xa_pR (.int (xm_twice nh ns S net)) T R) := by
  refine xa_Ct.of [some (.ref (ci 0 129)), some (.int net), none, none, none] rfl (Nat.le_of_ble_eq_true rfl) (by simp [Value.category]) rfl ?_
  have n12 := hX.n12
  have n32 := hX.n32
  refine xa_iload_n (pc := 0) dX7_twice_0 rfl ?_
  refine xa_callS (pc := 1) lcX7_21 dX7_twice_1 (cx_isNet E _) rfl rfl (by decide) (Nat.le_of_ble_eq_true rfl) (by decide) ?_
  rintro _ _ _ ⟨rfl, rfl, rfl⟩
  refine xa_if_ne (pc := 4) 9 dX7_twice_4 (by decide) (fun h4 => ?_) (fun h4 => ?_)
  · have h4 := xa_b_n0.mp h4
    refine xa_iconst (pc := 9) (v := 0) dX7_twice_9 (by decide) ?_
    refine xa_istore_n (pc := 10) dX7_twice_10 (by decide) ?_
    refine xa_iconst (pc := 11) (v := 0) dX7_twice_11 (by decide) ?_
    refine xa_istore_n (pc := 12) dX7_twice_12 (by decide) ?_
    rw [show xm_twice nh ns S net = _ from if_pos h4]
    exact xa_fgk (lx_tw13 E hX net 0 (Nat.zero_le _)) (And.intro rfl (And.intro rfl (And.intro rfl (And.intro rfl trivial))))
  · have h4 := xa_b_0.mp h4
    refine xa_iconst (pc := 7) (v := (-1)) dX7_twice_7 (by decide) ?_
    rw [show xm_twice nh ns S net = _ from if_neg (by rw [h4]; decide)]
    exact xa_zret dX7_twice_8 rfl rfl ⟨rfl, rfl, rfl⟩
