def xm_aok (ns : Nat) (S : xa_AH) (h : Nat) (kd nm mk lf : Int32) : Bool := xm_in kd 0 15 && (xm_in mk 0 255 && (xm_in lf 4 200 && (decide (ns < 32) && (decide (xa_ct (cq_lv S h) ns < 4) && !xa_any (cq_nt S h nm) ns))))
theorem aok_p {ns h : Nat} {S : xa_AH} {kd nm mk lf : Int32} (g : xm_aok ns S h kd nm mk lf = true) : vp_in kd 16 ∧ vp_in lf 201 := by
  unfold xm_aok at g
  simp only [Bool.and_eq_true, decide_eq_true_eq] at g
  have a := xm_in_t.mp g.1
  have b := xm_in_t.mp g.2.2.1
  rw [fa_le, fa_le] at a b
  have e0 : (0 : Int32).toInt = 0 := rfl
  have e15 : (15 : Int32).toInt = 15 := rfl
  have e4 : (4 : Int32).toInt = 4 := rfl
  have e200 : (200 : Int32).toInt = 200 := rfl
  rw [e0, e15] at a; rw [e4, e200] at b
  exact ⟨vp_in_iff.mpr ⟨by omega, by omega⟩, vp_in_iff.mpr ⟨by omega, by omega⟩⟩
set_option maxHeartbeats 4000000 in
theorem cx_addService (E : xa_EV) {L : List Nat} {T : xa_AH} {R : xa_AR} {nh ns : Nat} {pw : Nat → Nat} {S : xa_AH} (hX : RX nh ns 0 pw L T R S) {h : Nat} (hh : h < nh) (h7 : S 137 h = 0) (kd nm mk lf : Int32) (fb : Bool) (k3 : 1 ≤ nm ∧ nm ≤ 250) (k4 : fb = false → S 133 h ≤ nm ∧ nm ≤ S 134 h) : xa_CtA E mX7_addService [.ref (ci 0 129), .ref (ci h 0), .int kd, .int nm, .int mk, .int lf, .int (xa_b fb)] L T R (PXA pw (.int (if xm_aok ns S h kd nm mk lf = true then nI ns else -1)) nh (if xm_aok ns S h kd nm mk lf = true then ns + 1 else ns) (if xm_aok ns S h kd nm mk lf = true then xm_adS ns S (nI h) kd nm mk lf fb else S)) := by
  refine xa_CtA.of [some (.ref (ci 0 129)), some (.ref (ci h 0)), some (.int kd), some (.int nm), some (.int mk), some (.int lf), some (.int (xa_b fb)), none, none] rfl (Nat.le_of_ble_eq_true rfl) (by simp [Value.category]) rfl ?_
  have n12 := hX.n12
  have n32 := hX.n32
  have lvl := xa_ct_le (cq_lv S h) ns
  refine xa_iload (pc := 0) dX7_addService_0 rfl ?_
  refine xa_iconst (pc := 2) (v := 4) dX7_addService_2 (by decide) ?_
  refine xa_icmp_lt (pc := 3) 18 dX7_addService_3 (by decide) (fun h3 => ?_) (fun h3 => ?_)
  · refine xa_iconst (pc := 18) (v := 0) dX7_addService_18 (by decide) ?_
    refine xa_istore (pc := 19) dX7_addService_19 (by decide) ?_
    refine xa_iload_n (pc := 21) dX7_addService_21 rfl ?_
    refine xa_callS (pc := 22) lcX7_68 dX7_addService_22 (cx_isKind E _) rfl rfl (by decide) (Nat.le_of_ble_eq_true rfl) (by decide) ?_
    rintro _ _ _ ⟨rfl, rfl, rfl⟩
    refine xa_if_eq (pc := 25) 50 dX7_addService_25 (by decide) (fun h25 => ?_) (fun h25 => ?_)
    · have h25 := xa_b_0.mp h25
      refine xa_iconst (pc := 50) (v := (-1)) dX7_addService_50 (by decide) ?_
      have hk : ¬ xm_aok ns S h kd nm mk lf = true := by simp [xm_aok, xm_in, Int32.not_le.mpr h3]
      rw [if_neg hk, if_neg hk, if_neg hk]
      exact xa_zretA dX7_addService_51 rfl rfl ⟨rfl, hX⟩
    · have h25 := xa_b_n0.mp h25
      refine xa_iload (pc := 28) dX7_addService_28 rfl ?_
      refine xa_callS (pc := 30) lcX7_53 dX7_addService_30 (cx_areMarks E _) rfl rfl (by decide) (Nat.le_of_ble_eq_true rfl) (by decide) ?_
      rintro _ _ _ ⟨rfl, rfl, rfl⟩
      refine xa_if_eq (pc := 33) 50 dX7_addService_33 (by decide) (fun h33 => ?_) (fun h33 => ?_)
      · have h33 := xa_b_0.mp h33
        refine xa_iconst (pc := 50) (v := (-1)) dX7_addService_50 (by decide) ?_
        have hk : ¬ xm_aok ns S h kd nm mk lf = true := by simp [xm_aok, xm_in, Int32.not_le.mpr h3]
        rw [if_neg hk, if_neg hk, if_neg hk]
        exact xa_zretA dX7_addService_51 rfl rfl ⟨rfl, hX⟩
      · have h33 := xa_b_n0.mp h33
        have h25' := h25
        have h33' := h33
        refine xa_iload (pc := 36) dX7_addService_36 rfl ?_
        refine xa_if_eq (pc := 38) 50 dX7_addService_38 (by decide) (fun _ => ?_) (fun hc => absurd hc (by decide))
        refine xa_iconst (pc := 50) (v := (-1)) dX7_addService_50 (by decide) ?_
        have hk : ¬ xm_aok ns S h kd nm mk lf = true := by simp [xm_aok, xm_in, Int32.not_le.mpr h3]
        rw [if_neg hk, if_neg hk, if_neg hk]
        exact xa_zretA dX7_addService_51 rfl rfl ⟨rfl, hX⟩
  · refine xa_iload (pc := 6) dX7_addService_6 rfl ?_
    refine xa_sipush (pc := 8) (v := 200) dX7_addService_8 (by decide) ?_
    refine xa_icmp_gt (pc := 11) 18 dX7_addService_11 (by decide) (fun h11 => ?_) (fun h11 => ?_)
    · refine xa_iconst (pc := 18) (v := 0) dX7_addService_18 (by decide) ?_
      refine xa_istore (pc := 19) dX7_addService_19 (by decide) ?_
      refine xa_iload_n (pc := 21) dX7_addService_21 rfl ?_
      refine xa_callS (pc := 22) lcX7_68 dX7_addService_22 (cx_isKind E _) rfl rfl (by decide) (Nat.le_of_ble_eq_true rfl) (by decide) ?_
      rintro _ _ _ ⟨rfl, rfl, rfl⟩
      refine xa_if_eq (pc := 25) 50 dX7_addService_25 (by decide) (fun h25 => ?_) (fun h25 => ?_)
      · have h25 := xa_b_0.mp h25
        refine xa_iconst (pc := 50) (v := (-1)) dX7_addService_50 (by decide) ?_
        have hk : ¬ xm_aok ns S h kd nm mk lf = true := by simp [xm_aok, xm_in, Int32.not_le.mpr h11]
        rw [if_neg hk, if_neg hk, if_neg hk]
        exact xa_zretA dX7_addService_51 rfl rfl ⟨rfl, hX⟩
      · have h25 := xa_b_n0.mp h25
        refine xa_iload (pc := 28) dX7_addService_28 rfl ?_
        refine xa_callS (pc := 30) lcX7_53 dX7_addService_30 (cx_areMarks E _) rfl rfl (by decide) (Nat.le_of_ble_eq_true rfl) (by decide) ?_
        rintro _ _ _ ⟨rfl, rfl, rfl⟩
        refine xa_if_eq (pc := 33) 50 dX7_addService_33 (by decide) (fun h33 => ?_) (fun h33 => ?_)
        · have h33 := xa_b_0.mp h33
          refine xa_iconst (pc := 50) (v := (-1)) dX7_addService_50 (by decide) ?_
          have hk : ¬ xm_aok ns S h kd nm mk lf = true := by simp [xm_aok, xm_in, Int32.not_le.mpr h11]
          rw [if_neg hk, if_neg hk, if_neg hk]
          exact xa_zretA dX7_addService_51 rfl rfl ⟨rfl, hX⟩
        · have h33 := xa_b_n0.mp h33
          have h25' := h25
          have h33' := h33
          refine xa_iload (pc := 36) dX7_addService_36 rfl ?_
          refine xa_if_eq (pc := 38) 50 dX7_addService_38 (by decide) (fun _ => ?_) (fun hc => absurd hc (by decide))
          refine xa_iconst (pc := 50) (v := (-1)) dX7_addService_50 (by decide) ?_
          have hk : ¬ xm_aok ns S h kd nm mk lf = true := by simp [xm_aok, xm_in, Int32.not_le.mpr h11]
          rw [if_neg hk, if_neg hk, if_neg hk]
          exact xa_zretA dX7_addService_51 rfl rfl ⟨rfl, hX⟩
    · refine xa_iconst (pc := 14) (v := 1) dX7_addService_14 (by decide) ?_
      refine xa_goto (pc := 15) (tgt := 19) dX7_addService_15 (by decide) ?_
      refine xa_istore (pc := 19) dX7_addService_19 (by decide) ?_
      refine xa_iload_n (pc := 21) dX7_addService_21 rfl ?_
      refine xa_callS (pc := 22) lcX7_68 dX7_addService_22 (cx_isKind E _) rfl rfl (by decide) (Nat.le_of_ble_eq_true rfl) (by decide) ?_
      rintro _ _ _ ⟨rfl, rfl, rfl⟩
      refine xa_if_eq (pc := 25) 50 dX7_addService_25 (by decide) (fun h25 => ?_) (fun h25 => ?_)
      · have h25 := xa_b_0.mp h25
        refine xa_iconst (pc := 50) (v := (-1)) dX7_addService_50 (by decide) ?_
        have hk : ¬ xm_aok ns S h kd nm mk lf = true := by simp [xm_aok, h25]
        rw [if_neg hk, if_neg hk, if_neg hk]
        exact xa_zretA dX7_addService_51 rfl rfl ⟨rfl, hX⟩
      · have h25 := xa_b_n0.mp h25
        refine xa_iload (pc := 28) dX7_addService_28 rfl ?_
        refine xa_callS (pc := 30) lcX7_53 dX7_addService_30 (cx_areMarks E _) rfl rfl (by decide) (Nat.le_of_ble_eq_true rfl) (by decide) ?_
        rintro _ _ _ ⟨rfl, rfl, rfl⟩
        refine xa_if_eq (pc := 33) 50 dX7_addService_33 (by decide) (fun h33 => ?_) (fun h33 => ?_)
        · have h33 := xa_b_0.mp h33
          refine xa_iconst (pc := 50) (v := (-1)) dX7_addService_50 (by decide) ?_
          have hk : ¬ xm_aok ns S h kd nm mk lf = true := by simp [xm_aok, h33]
          rw [if_neg hk, if_neg hk, if_neg hk]
          exact xa_zretA dX7_addService_51 rfl rfl ⟨rfl, hX⟩
        · have h33 := xa_b_n0.mp h33
          have h25' := h25
          have h33' := h33
          refine xa_iload (pc := 36) dX7_addService_36 rfl ?_
          refine xa_if_eq (pc := 38) 50 dX7_addService_38 (by decide) (fun hc => absurd hc (by decide)) (fun _ => ?_)
          refine xa_aload_n (pc := 41) dX7_addService_41 rfl ?_
          refine xa_getIv (pc := 42) 7 3 _ lfX7_103 dX7_addService_42 hX.c_m129 (kd_129 _) rfl hX.g_ns ?_
          refine xa_bipush (pc := 45) (v := 32) dX7_addService_45 (by decide) ?_
          refine xa_icmp_lt (pc := 47) 52 dX7_addService_47 (by decide) (fun h47 => ?_) (fun h47 => ?_)
          · refine xa_aload_n (pc := 52) dX7_addService_52 rfl ?_
            refine xa_aload_n (pc := 53) dX7_addService_53 rfl ?_
            refine xa_callV (pc := 54) hX.c_m129 (kd_129 _) rfl lcX7_250 dX7_addService_54 (cx_live E hX hh) rfl rfl (by decide) (Nat.le_of_ble_eq_true rfl) (by decide) ?_
            rintro _ _ _ ⟨rfl, rfl, rfl⟩
            refine xa_iconst (pc := 57) (v := 4) dX7_addService_57 (by decide) ?_
            refine xa_icmpN_ge (pc := 58) 70 (xa_ct (cq_lv S h) ns) 4 dX7_addService_58 (by decide) rfl rfl (by omega) (by omega) (fun h58 => ?_) (fun h58 => ?_)
            · have g58 : ¬ ((xa_ct (cq_lv S h) ns) < 4) := by omega
              refine xa_iconst (pc := 70) (v := (-1)) dX7_addService_70 (by decide) ?_
              have hk : ¬ xm_aok ns S h kd nm mk lf = true := by simp [xm_aok, show ¬ xa_ct (cq_lv S h) ns < 4 by omega]
              rw [if_neg hk, if_neg hk, if_neg hk]
              exact xa_zretA dX7_addService_71 rfl rfl ⟨rfl, hX⟩
            · refine xa_aload_n (pc := 61) dX7_addService_61 rfl ?_
              refine xa_aload_n (pc := 62) dX7_addService_62 rfl ?_
              refine xa_iload_n (pc := 63) dX7_addService_63 rfl ?_
              refine xa_callV (pc := 64) hX.c_m129 (kd_129 _) rfl lcX7_253 dX7_addService_64 (cx_isNameTaken E hX hh _) rfl rfl (by decide) (Nat.le_of_ble_eq_true rfl) (by decide) ?_
              rintro _ _ _ ⟨rfl, rfl, rfl⟩
              refine xa_if_eq (pc := 67) 72 dX7_addService_67 (by decide) (fun h67 => ?_) (fun h67 => ?_)
              · have h67 := xa_b_0.mp h67
                have hn : ns < 32 := by rw [fa_lt, nI_toInt (by omega)] at h47; have e : (32 : Int32).toInt = 32 := rfl; rw [e] at h47; omega
                have hk : xm_aok ns S h kd nm mk lf = true := by
                  unfold xm_aok
                  rw [h25', h33', show xm_in lf 4 200 = true by simp [xm_in, Int32.not_lt.mp h3, Int32.not_lt.mp h11]]
                  simp [hn, h58, h67]
                rw [if_pos hk, if_pos hk, if_pos hk]
                have e129 : ci 0 129 ≠ ci ns 128 := ci_ne (by decide) (by decide) (by decide)
                have nw : ¬ ci ns 128 ∈ L := hX.c_ns ns (Nat.le_refl _)
                refine xa_new (pc := 72) (ci ns 128) 5 lnX7_15 dX7_addService_72 (kd_128 _) nw nw (by simp) (fun z => by simp at z; rcases z with z | z <;> exact absurd z (ci_ne (by decide) (by decide) (by decide))) (fun b k z => nw (hX.c_cl b k _ z)) (by decide) (by decide) ?_
                have m9 : ci 0 129 ∈ L ++ [ci ns 128] := List.mem_append_left _ hX.c_m129
                have m7 : ci 0 127 ∈ L ++ [ci ns 128] := List.mem_append_left _ hX.c_m127
                have m8 : ci ns 128 ∈ L ++ [ci ns 128] := List.mem_append_right _ List.mem_cons_self
                have m0 : ci h 0 ∈ L ++ [ci ns 128] := List.mem_append_left _ ((hX.hS hh).1 0 (by decide))
                refine xa_dup (pc := 75) dX7_addService_75 rfl ?_
                refine xa_aload_n (pc := 76) dX7_addService_76 rfl ?_
                refine xa_getIv (pc := 77) 7 3 (nI ns) lfX7_103 dX7_addService_77 m9 (kd_129 _) rfl (by rw [zi_o e129]; exact hX.g_ns) ?_
                refine xa_aload_n (pc := 80) dX7_addService_80 rfl ?_
                refine xa_iload_n (pc := 81) dX7_addService_81 rfl ?_
                refine xa_iload_n (pc := 82) dX7_addService_82 rfl ?_
                refine xa_iload (pc := 83) dX7_addService_83 rfl ?_
                refine xa_iload (pc := 85) dX7_addService_85 rfl ?_
                refine xa_iload (pc := 87) dX7_addService_87 rfl ?_
                refine xa_callI (pc := 89) lcX7_257 dX7_addService_89 (cx_i5 E m8 m0 (nI ns) kd nm mk lf fb) rfl rfl (by decide) (Nat.le_of_ble_eq_true rfl) (by decide) ?_
                rintro _ _ _ ⟨rfl, rfl, rfl⟩
                refine xa_astore (pc := 92) dX7_addService_92 (by decide) ?_
                refine xa_iload (pc := 94) dX7_addService_94 rfl ?_
                refine xa_if_eq (pc := 96) 108 dX7_addService_96 (by decide) (fun h96 => ?_) (fun h96 => ?_)
                · have h96 := xa_b_0.mp h96
                  subst h96
                  change xa_W E _ _ _ _ 108 _ _ _ (adT T ns kd nm mk lf (S 130 36) false) _
                  refine xa_aload_n (pc := 108) dX7_addService_108 rfl ?_
                  refine xa_getA (pc := 109) 7 1 (ci 0 127) lfX7_17 dX7_addService_109 m9 (kd_129 _) rfl (by rw [upr_o (Or.inr e129), zr_o e129]; exact hX.c_r1) ?_
                  refine xa_aload_n (pc := 112) dX7_addService_112 rfl ?_
                  refine xa_getIv (pc := 113) 7 3 (nI ns) lfX7_103 dX7_addService_113 m9 (kd_129 _) rfl (by rw [adT_o e129]; exact hX.g_ns) ?_
                  refine xa_aload (pc := 116) dX7_addService_116 rfl ?_
                  refine xa_aast_s (pc := 118) dX7_addService_118 m7 (kd_127 _) m8 (kd_128 _) (by rw [ln_127]; exact xa_in_of hn (by decide)) ?_
                  rw [show (nI ns).toNatClampNeg = ns from xc_n (by omega)]
                  refine xa_aload_n (pc := 119) dX7_addService_119 rfl ?_
                  refine xa_dup (pc := 120) dX7_addService_120 rfl ?_
                  refine xa_getIv (pc := 121) 7 3 (nI ns) lfX7_103 dX7_addService_121 m9 (kd_129 _) rfl (by rw [adT_o e129]; exact hX.g_ns) ?_
                  refine xa_iconst (pc := 124) (v := 1) dX7_addService_124 (by decide) ?_
                  refine xa_iadd (pc := 125) dX7_addService_125 ?_
                  refine xa_putI (pc := 126) 7 3 lpX7_103 dX7_addService_126 m9 (kd_129 _) rfl rfl rfl ?_
                  refine xa_aload (pc := 129) dX7_addService_129 rfl ?_
                  refine xa_getIv (pc := 131) 5 0 (nI ns) lfX7_264 dX7_addService_131 m8 (kd_128 _) rfl (by rw [up_o (Ne.symm e129)]; exact adT_n.1) ?_
                  exact xa_zretA dX7_addService_134 rfl rfl ⟨rfl, RX_serv hX hn hh h7 (aok_p hk).1 (aok_p hk).2 k3 k4⟩
                · have h96 := xa_b_n0.mp h96
                  subst h96
                  refine xa_aload (pc := 99) dX7_addService_99 rfl ?_
                  refine xa_aload_n (pc := 101) dX7_addService_101 rfl ?_
                  refine xa_getIv (pc := 102) 7 4 (S 130 36) lfX7_62 dX7_addService_102 m9 (kd_129 _) rfl (by unfold svT; rw [up_o e129, up_o e129, up_o e129, up_o e129, up_o e129, up_o e129, up_o e129, up_o e129, zi_o e129]; exact hX.g_now) ?_
                  refine xa_callV (pc := 105) m8 (kd_128 _) rfl lcX7_260 dX7_addService_105 (cx_hold E m8 _) rfl rfl (by decide) (Nat.le_of_ble_eq_true rfl) (by decide) ?_
                  rintro _ _ _ ⟨rfl, rfl, rfl⟩
                  change xa_W E _ _ _ _ 108 _ _ _ (adT T ns kd nm mk lf (S 130 36) true) _
                  refine xa_aload_n (pc := 108) dX7_addService_108 rfl ?_
                  refine xa_getA (pc := 109) 7 1 (ci 0 127) lfX7_17 dX7_addService_109 m9 (kd_129 _) rfl (by rw [upr_o (Or.inr e129), zr_o e129]; exact hX.c_r1) ?_
                  refine xa_aload_n (pc := 112) dX7_addService_112 rfl ?_
                  refine xa_getIv (pc := 113) 7 3 (nI ns) lfX7_103 dX7_addService_113 m9 (kd_129 _) rfl (by rw [adT_o e129]; exact hX.g_ns) ?_
                  refine xa_aload (pc := 116) dX7_addService_116 rfl ?_
                  refine xa_aast_s (pc := 118) dX7_addService_118 m7 (kd_127 _) m8 (kd_128 _) (by rw [ln_127]; exact xa_in_of hn (by decide)) ?_
                  rw [show (nI ns).toNatClampNeg = ns from xc_n (by omega)]
                  refine xa_aload_n (pc := 119) dX7_addService_119 rfl ?_
                  refine xa_dup (pc := 120) dX7_addService_120 rfl ?_
                  refine xa_getIv (pc := 121) 7 3 (nI ns) lfX7_103 dX7_addService_121 m9 (kd_129 _) rfl (by rw [adT_o e129]; exact hX.g_ns) ?_
                  refine xa_iconst (pc := 124) (v := 1) dX7_addService_124 (by decide) ?_
                  refine xa_iadd (pc := 125) dX7_addService_125 ?_
                  refine xa_putI (pc := 126) 7 3 lpX7_103 dX7_addService_126 m9 (kd_129 _) rfl rfl rfl ?_
                  refine xa_aload (pc := 129) dX7_addService_129 rfl ?_
                  refine xa_getIv (pc := 131) 5 0 (nI ns) lfX7_264 dX7_addService_131 m8 (kd_128 _) rfl (by rw [up_o (Ne.symm e129)]; exact adT_n.1) ?_
                  exact xa_zretA dX7_addService_134 rfl rfl ⟨rfl, RX_serv hX hn hh h7 (aok_p hk).1 (aok_p hk).2 k3 k4⟩
              · have h67 := xa_b_n0.mp h67
                refine xa_iconst (pc := 70) (v := (-1)) dX7_addService_70 (by decide) ?_
                have hk : ¬ xm_aok ns S h kd nm mk lf = true := by simp [xm_aok, h67]
                rw [if_neg hk, if_neg hk, if_neg hk]
                exact xa_zretA dX7_addService_71 rfl rfl ⟨rfl, hX⟩
          · refine xa_iconst (pc := 50) (v := (-1)) dX7_addService_50 (by decide) ?_
            have hk : ¬ xm_aok ns S h kd nm mk lf = true := by simp [xm_aok, show ¬ ns < 32 from fun c => h47 (by rw [fa_lt, nI_toInt (by omega)]; have e : (32 : Int32).toInt = 32 := rfl; rw [e]; omega)]
            rw [if_neg hk, if_neg hk, if_neg hk]
            exact xa_zretA dX7_addService_51 rfl rfl ⟨rfl, hX⟩
theorem may_ok {nh ns : Nat} {pw : Nat → Nat} {L : List Nat} {T : xa_AH} {R : xa_AR} {S : xa_AH} (hX : RX nh ns 0 pw L T R S) {xh kd nm mk lf : Int32} {c : Bool} (g : xm_hlp nh S xh = true) : (xm_may nh ns S xh kd mk lf && (c && !xa_any (xm_np S xh nm (-1)) ns)) = (c && xm_aok ns S (xc xh) kd nm mk lf) := by
  have n12 := hX.n12
  have n32 := hX.n32
  have hv := (xm_isH_t hX.h100).mp (xm_up_h (hlp_up g))
  have ex : xh = nI (xc xh) := xa_in_eq hv
  have hl : xc xh < nh := xa_in_lt hv
  have eq : ∀ s, s < ns → (S 146 s = xh ↔ xc (S 146 s) = xc xh) := fun s hs => by
    constructor
    · intro e; rw [e]
    · intro e; rw [hX.hE hs, e]; exact ex.symm
  have e1 : xa_ct (xm_mp S xh) ns = xa_ct (cq_lv S (xc xh)) ns := xa_ct_cong (fun s hs => by simp [xm_mp, cq_lv, eq s hs])
  have e2 : xa_any (xm_np S xh nm (-1)) ns = xa_any (cq_nt S (xc xh) nm) ns := xa_any_cong (fun s hs => by
    have ne : ¬ nI s = -1 := fun e => by
      have q := congrArg Int32.toInt e
      rw [nI_toInt (by omega)] at q
      have e0 : (-1 : Int32).toInt = -1 := rfl
      rw [e0] at q; omega
    simp only [xm_np, cq_nt, ne, eq s hs, decide_false, Bool.not_false, Bool.true_and]
    generalize decide (xc (S 146 s) = xc xh) = b1
    generalize decide (S 148 s = nm) = b2
    rw [show decide (S 151 s ≠ 0) = decide (¬ S 151 s = 0) from rfl]
    generalize decide (¬ S 151 s = 0) = b3
    cases b1 <;> cases b2 <;> cases b3 <;> rfl)
  unfold xm_may xm_aok
  rw [hlp_up g, decide_eq_true (hlp_b g), e1, e2]
  generalize decide (xa_ct (cq_lv S (xc xh)) ns < 4) = b1
  generalize xa_any (cq_nt S (xc xh) nm) ns = b2
  generalize xm_in kd 0 15 = b3
  generalize xm_in mk 0 255 = b4
  generalize xm_in lf 4 200 = b5
  generalize decide (ns < 32) = b6
  cases c <;> cases b1 <;> cases b2 <;> cases b3 <;> cases b4 <;> cases b5 <;> cases b6 <;> rfl
theorem may_no {nh ns : Nat} {S : xa_AH} {xh kd mk lf : Int32} {c : Bool} (g : xm_hlp nh S xh = false) : ¬ (xm_may nh ns S xh kd mk lf && c) = true := by
  intro z
  unfold xm_may at z
  unfold xm_hlp at g
  simp only [Bool.and_eq_true, decide_eq_true_eq] at z
  rw [z.1.1, decide_eq_true z.1.2.1] at g
  cases g
theorem hlp_7 {nh : Nat} {S : xa_AH} {xh : Int32} (g : xm_hlp nh S xh = true) : S 137 (xc xh) = 0 := by
  have z := hlp_up g
  unfold xm_up at z
  simp only [Bool.and_eq_true, decide_eq_true_eq] at z
  exact z.2
def xm_offerok (nh ns : Nat) (S : xa_AH) (xh kd nm mk lf : Int32) : Bool := (xm_may nh ns S xh kd mk lf && (xm_in nm (S 133 (xc xh)) (S 134 (xc xh)) && !xa_any (xm_np S xh nm (-1)) ns))
set_option maxHeartbeats 4000000 in
theorem cx_offer (E : xa_EV) {L : List Nat} {T : xa_AH} {R : xa_AR} {nh ns : Nat} {pw : Nat → Nat} {S : xa_AH} (hX : RX nh ns 0 pw L T R S) (xh kd nm mk lf : Int32) : xa_CtA E mX7_offer [.ref (ci 0 129), .int xh, .int kd, .int nm, .int mk, .int lf] L T R (PXA pw (.int (xm_offer nh ns S xh kd nm mk lf).1) nh (if (xm_offerok nh ns S xh kd nm mk lf) = true then ns + 1 else ns) (xm_offer nh ns S xh kd nm mk lf).2) := by
  refine xa_CtA.of [some (.ref (ci 0 129)), some (.int xh), some (.int kd), some (.int nm), some (.int mk), some (.int lf), none] rfl (Nat.le_of_ble_eq_true rfl) (by simp [Value.category]) rfl ?_
  have n12 := hX.n12
  have n32 := hX.n32
  refine xa_aload_n (pc := 0) dX7_offer_0 rfl ?_
  refine xa_iload_n (pc := 1) dX7_offer_1 rfl ?_
  refine xa_callV (pc := 2) hX.c_m129 (kd_129 _) rfl lcX7_35 dX7_offer_2 (cx_stayingHelper E hX _) rfl rfl (by decide) (Nat.le_of_ble_eq_true rfl) (by decide) ?_
  rintro _ _ _ ⟨⟨hq2, rfl⟩ | ⟨hq2, rfl⟩, rfl, rfl⟩
  · refine xa_astore (pc := 5) dX7_offer_5 (by decide) ?_
    refine xa_aload (pc := 7) dX7_offer_7 rfl ?_
    refine xa_ifnull_ref (pc := 9) dX7_offer_9 ?_
    refine xa_aload (pc := 12) dX7_offer_12 rfl ?_
    refine xa_iload_n (pc := 14) dX7_offer_14 rfl ?_
    refine xa_callV (pc := 15) ((hX.hS (aw_lt hX.h100 (hlp_up hq2))).1 0 (by decide)) (kd_0 _) rfl lcX7_39 dX7_offer_15 (cx_hasForName E hX (aw_lt hX.h100 (hlp_up hq2)) _) rfl rfl (by decide) (Nat.le_of_ble_eq_true rfl) (by decide) ?_
    rintro _ _ _ ⟨rfl, rfl, rfl⟩
    refine xa_if_ne (pc := 18) 23 dX7_offer_18 (by decide) (fun h18 => ?_) (fun h18 => ?_)
    · have h18 := xa_b_n0.mp h18
      refine xa_aload_n (pc := 23) dX7_offer_23 rfl ?_
      refine xa_aload (pc := 24) dX7_offer_24 rfl ?_
      refine xa_iload_n (pc := 26) dX7_offer_26 rfl ?_
      refine xa_iload_n (pc := 27) dX7_offer_27 rfl ?_
      refine xa_iload (pc := 28) dX7_offer_28 rfl ?_
      refine xa_iload (pc := 30) dX7_offer_30 rfl ?_
      refine xa_iconst (pc := 32) (v := 0) dX7_offer_32 (by decide) ?_
      have hh : xc xh < nh := aw_lt hX.h100 (hlp_up hq2)
      have ex : xh = nI (xc xh) := xa_in_eq ((xm_isH_t hX.h100).mp (xm_up_h (hlp_up hq2)))
      have eok : (xm_offerok nh ns S xh kd nm mk lf) = xm_aok ns S (xc xh) kd nm mk lf := by
        unfold xm_offerok
        rw [may_ok hX hq2, h18]; rfl
      refine xa_callVA (pc := 33) hX.c_m129 (kd_129 _) rfl lcX7_42 dX7_offer_33 (cx_addService E hX hh (hlp_7 hq2) kd nm mk lf false (by have z := xm_in_t.mp h18; have y := hX.ih_nm hh; exact ⟨Int32.le_trans y.1 z.1, Int32.le_trans z.2 y.2.2⟩) (fun _ => xm_in_t.mp h18)) rfl rfl (by decide) (Nat.le_of_ble_eq_true rfl) (by decide) (by decide) (fun a ha => ha) (fun a ha => by simp at ha) (fun a ha => by simp at ha; rcases ha with e | e <;> rw [e] <;> first | exact hX.c_m129 | exact (hX.hS hh).1 0 (by decide)) ?_
      rintro _ L1 T1 R1 ⟨rfl, hY⟩
      rw [← eok] at hY ⊢
      refine xa_zretA (pc := 36) dX7_offer_36 rfl rfl ⟨?_, ?_⟩
      · by_cases hk : (xm_offerok nh ns S xh kd nm mk lf) = true
        · rw [show xm_offer nh ns S xh kd nm mk lf = _ from if_pos hk, if_pos hk]
        · rw [show xm_offer nh ns S xh kd nm mk lf = _ from if_neg hk, if_neg hk]
      · by_cases hk : (xm_offerok nh ns S xh kd nm mk lf) = true
        · rw [if_pos hk] at hY ⊢
          rw [show xm_offer nh ns S xh kd nm mk lf = _ from if_pos hk]
          rw [if_pos hk, ← ex] at hY
          exact hY
        · rw [if_neg hk] at hY ⊢
          rw [show xm_offer nh ns S xh kd nm mk lf = _ from if_neg hk]
          rw [if_neg hk] at hY
          exact hY
    · have h18 := xa_b_0.mp h18
      refine xa_iconst (pc := 21) (v := (-1)) dX7_offer_21 (by decide) ?_
      have hk : ¬ (xm_offerok nh ns S xh kd nm mk lf) = true := fun z => by
        unfold xm_offerok at z
        rw [h18] at z
        simp at z
      rw [show xm_offer nh ns S xh kd nm mk lf = _ from if_neg hk, if_neg hk]
      exact xa_zretA dX7_offer_22 rfl rfl ⟨rfl, hX⟩
  · refine xa_astoreN (pc := 5) dX7_offer_5 (by decide) ?_
    refine xa_aloadN (pc := 7) dX7_offer_7 rfl ?_
    refine xa_ifnull_null (pc := 9) 21 dX7_offer_9 (by decide) ?_
    refine xa_iconst (pc := 21) (v := (-1)) dX7_offer_21 (by decide) ?_
    have hk : ¬ (xm_offerok nh ns S xh kd nm mk lf) = true := may_no hq2
    rw [show xm_offer nh ns S xh kd nm mk lf = _ from if_neg hk, if_neg hk]
    exact xa_zretA dX7_offer_22 rfl rfl ⟨rfl, hX⟩
def xm_lieok (nh ns : Nat) (S : xa_AH) (xh kd nm mk lf : Int32) : Bool := (xm_may nh ns S xh kd mk lf && (xm_in nm 1 250 && !xa_any (xm_np S xh nm (-1)) ns))
set_option maxHeartbeats 4000000 in
theorem cx_lie (E : xa_EV) {L : List Nat} {T : xa_AH} {R : xa_AR} {nh ns : Nat} {pw : Nat → Nat} {S : xa_AH} (hX : RX nh ns 0 pw L T R S) (xh kd nm mk lf : Int32) : xa_CtA E mX7_lie [.ref (ci 0 129), .int xh, .int kd, .int nm, .int mk, .int lf] L T R (PXA pw (.int (xm_lie nh ns S xh kd nm mk lf).1) nh (if (xm_lieok nh ns S xh kd nm mk lf) = true then ns + 1 else ns) (xm_lie nh ns S xh kd nm mk lf).2) := by
  refine xa_CtA.of [some (.ref (ci 0 129)), some (.int xh), some (.int kd), some (.int nm), some (.int mk), some (.int lf), none] rfl (Nat.le_of_ble_eq_true rfl) (by simp [Value.category]) rfl ?_
  have n12 := hX.n12
  have n32 := hX.n32
  refine xa_aload_n (pc := 0) dX7_lie_0 rfl ?_
  refine xa_iload_n (pc := 1) dX7_lie_1 rfl ?_
  refine xa_callV (pc := 2) hX.c_m129 (kd_129 _) rfl lcX7_35 dX7_lie_2 (cx_stayingHelper E hX _) rfl rfl (by decide) (Nat.le_of_ble_eq_true rfl) (by decide) ?_
  rintro _ _ _ ⟨⟨hq2, rfl⟩ | ⟨hq2, rfl⟩, rfl, rfl⟩
  · refine xa_astore (pc := 5) dX7_lie_5 (by decide) ?_
    refine xa_aload (pc := 7) dX7_lie_7 rfl ?_
    refine xa_ifnull_ref (pc := 9) dX7_lie_9 ?_
    refine xa_iload_n (pc := 12) dX7_lie_12 rfl ?_
    refine xa_iconst (pc := 13) (v := 1) dX7_lie_13 (by decide) ?_
    refine xa_icmp_lt (pc := 14) 24 dX7_lie_14 (by decide) (fun h14 => ?_) (fun h14 => ?_)
    · refine xa_iconst (pc := 24) (v := (-1)) dX7_lie_24 (by decide) ?_
      have hk : ¬ (xm_lieok nh ns S xh kd nm mk lf) = true := fun z => by
        unfold xm_lieok at z
        rw [(show xm_in nm 1 250 = false by simp [xm_in, Int32.not_le.mpr h14])] at z
        simp at z
      rw [show xm_lie nh ns S xh kd nm mk lf = _ from if_neg hk, if_neg hk]
      exact xa_zretA dX7_lie_25 rfl rfl ⟨rfl, hX⟩
    · refine xa_iload_n (pc := 17) dX7_lie_17 rfl ?_
      refine xa_sipush (pc := 18) (v := 250) dX7_lie_18 (by decide) ?_
      refine xa_icmp_le (pc := 21) 26 dX7_lie_21 (by decide) (fun h21 => ?_) (fun h21 => ?_)
      · refine xa_aload_n (pc := 26) dX7_lie_26 rfl ?_
        refine xa_aload (pc := 27) dX7_lie_27 rfl ?_
        refine xa_iload_n (pc := 29) dX7_lie_29 rfl ?_
        refine xa_iload_n (pc := 30) dX7_lie_30 rfl ?_
        refine xa_iload (pc := 31) dX7_lie_31 rfl ?_
        refine xa_iload (pc := 33) dX7_lie_33 rfl ?_
        refine xa_iconst (pc := 35) (v := 1) dX7_lie_35 (by decide) ?_
        have hh : xc xh < nh := aw_lt hX.h100 (hlp_up hq2)
        have ex : xh = nI (xc xh) := xa_in_eq ((xm_isH_t hX.h100).mp (xm_up_h (hlp_up hq2)))
        have eok : (xm_lieok nh ns S xh kd nm mk lf) = xm_aok ns S (xc xh) kd nm mk lf := by
          unfold xm_lieok
          rw [may_ok hX hq2, (show xm_in nm 1 250 = true by simp [xm_in, Int32.not_lt.mp h14, h21])]; rfl
        refine xa_callVA (pc := 36) hX.c_m129 (kd_129 _) rfl lcX7_42 dX7_lie_36 (cx_addService E hX hh (hlp_7 hq2) kd nm mk lf true ⟨Int32.not_lt.mp h14, h21⟩ (fun c => by cases c)) rfl rfl (by decide) (Nat.le_of_ble_eq_true rfl) (by decide) (by decide) (fun a ha => ha) (fun a ha => by simp at ha) (fun a ha => by simp at ha; rcases ha with e | e <;> rw [e] <;> first | exact hX.c_m129 | exact (hX.hS hh).1 0 (by decide)) ?_
        rintro _ L1 T1 R1 ⟨rfl, hY⟩
        rw [← eok] at hY ⊢
        refine xa_zretA (pc := 39) dX7_lie_39 rfl rfl ⟨?_, ?_⟩
        · by_cases hk : (xm_lieok nh ns S xh kd nm mk lf) = true
          · rw [show xm_lie nh ns S xh kd nm mk lf = _ from if_pos hk, if_pos hk]
          · rw [show xm_lie nh ns S xh kd nm mk lf = _ from if_neg hk, if_neg hk]
        · by_cases hk : (xm_lieok nh ns S xh kd nm mk lf) = true
          · rw [if_pos hk] at hY ⊢
            rw [show xm_lie nh ns S xh kd nm mk lf = _ from if_pos hk]
            rw [if_pos hk, ← ex] at hY
            exact hY
          · rw [if_neg hk] at hY ⊢
            rw [show xm_lie nh ns S xh kd nm mk lf = _ from if_neg hk]
            rw [if_neg hk] at hY
            exact hY
      · refine xa_iconst (pc := 24) (v := (-1)) dX7_lie_24 (by decide) ?_
        have hk : ¬ (xm_lieok nh ns S xh kd nm mk lf) = true := fun z => by
          unfold xm_lieok at z
          rw [(show xm_in nm 1 250 = false by simp [xm_in, Int32.not_le.mpr (Int32.not_le.mp h21)])] at z
          simp at z
        rw [show xm_lie nh ns S xh kd nm mk lf = _ from if_neg hk, if_neg hk]
        exact xa_zretA dX7_lie_25 rfl rfl ⟨rfl, hX⟩
  · refine xa_astoreN (pc := 5) dX7_lie_5 (by decide) ?_
    refine xa_aloadN (pc := 7) dX7_lie_7 rfl ?_
    refine xa_ifnull_null (pc := 9) 24 dX7_lie_9 (by decide) ?_
    refine xa_iconst (pc := 24) (v := (-1)) dX7_lie_24 (by decide) ?_
    have hk : ¬ (xm_lieok nh ns S xh kd nm mk lf) = true := may_no hq2
    rw [show xm_lie nh ns S xh kd nm mk lf = _ from if_neg hk, if_neg hk]
    exact xa_zretA dX7_lie_25 rfl rfl ⟨rfl, hX⟩
