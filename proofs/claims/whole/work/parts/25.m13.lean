theorem xm_in_15 {k : Int32} (h : xm_in k 0 15 = true) : vp_in k 16 := by
  obtain ⟨h1, h2⟩ := xm_in_t.mp h
  rw [fa_le] at h1 h2
  have e1 : (0 : Int32).toInt = 0 := rfl
  have e2 : (15 : Int32).toInt = 15 := rfl
  rw [e1] at h1; rw [e2] at h2
  exact vp_in_iff.mpr ⟨h1, by omega⟩
theorem xm_may_up {nh ns : Nat} {S : xa_AH} {h k m l : Int32} (g : xm_may nh ns S h k m l = true) : xm_up nh S h = true := by
  rw [xm_may, Bool.and_eq_true] at g; exact g.1
theorem xm_may_ns {nh ns : Nat} {S : xa_AH} {h k m l : Int32} (g : xm_may nh ns S h k m l = true) : ns < 32 := by
  simp [xm_may] at g; exact g.2.2.2.2.2.2
def xm_ask (nh ns : Nat) (S : xa_AH) (h k m : Int32) : Bool × xa_AH := if (xm_up nh S h && (decide (S 139 (xc h) = 0) && (xm_in k 0 15 && (xm_in m 0 255 && decide (S 164 (16 * xc h + xc k) = 0))))) = true then (true, (xa_up (xa_up (xa_up S 164 (16 * xc h + xc k) 1) 165 (16 * xc h + xc k) m) 166 (16 * xc h + xc k) (S 130 36 + xm_lot h (S 130 36)))) else (false, S)
set_option maxHeartbeats 4000000 in
theorem cm_ask (E : xa_EV) (S : xa_AH) {nh ns : Nat} (hW : xm_wf nh ns S) (h k m : Int32) : xa_Ct E mX8_ask [.ref 130, .int h, .int k, .int m] xm_L S xm_R (xa_pR (.int (xa_b (xm_ask nh ns S h k m).1)) (xm_ask nh ns S h k m).2 xm_R) := by
  refine xa_Ct.of [some (.ref 130), some (.int h), some (.int k), some (.int m)] rfl (Nat.le_of_ble_eq_true rfl) (by simp [Value.category]) rfl ?_
  obtain ⟨w1, w2, w3, w4, w5⟩ := id hW
  refine xa_aload_n (pc := 0) dX8_ask_0 rfl ?_
  refine xa_iload_n (pc := 1) dX8_ask_1 rfl ?_
  refine xa_callV (pc := 2) xm_o rfl rfl lcX8_173 dX8_ask_2 (cm_isUp E _ hW _) rfl rfl (by decide) (Nat.le_of_ble_eq_true rfl) (by decide) ?_
  rintro _ _ _ ⟨rfl, rfl, rfl⟩
  refine xa_if_eq (pc := 5) 52 dX8_ask_5 (by decide) (fun h5 => ?_) (fun h5 => ?_)
  · have h5 := xa_b_0.mp h5
    refine xa_iconst (pc := 52) (v := 0) dX8_ask_52 (by decide) ?_
    rw [show xm_ask nh ns S h k m = _ from if_neg (by simp [h5])]
    exact xa_zret dX8_ask_53 rfl (by decide) ⟨rfl, rfl, rfl⟩
  · have h5 := xa_b_n0.mp h5
    have hv1 := (xm_isH_t (by omega)).mp (xm_up_h h5)
    have hb1 : xc h < nh := xa_in_lt hv1
    refine xa_aload_n (pc := 8) dX8_ask_8 rfl ?_
    refine xa_getA (pc := 9) 8 8 139 lfX8_35 dX8_ask_9 xm_o rfl rfl rfl ?_
    refine xa_iload_n (pc := 12) dX8_ask_12 rfl ?_
    refine xa_zaldN (pc := 13) (xc h) dX8_ask_13 xm_139 rfl (xa_in_eq hv1) (by show _ < 12; omega) (by decide) ?_
    refine xa_if_ne (pc := 14) 52 dX8_ask_14 (by decide) (fun h14 => ?_) (fun h14 => ?_)
    · refine xa_iconst (pc := 52) (v := 0) dX8_ask_52 (by decide) ?_
      rw [show xm_ask nh ns S h k m = _ from if_neg (by simp [h5, h14])]
      exact xa_zret dX8_ask_53 rfl (by decide) ⟨rfl, rfl, rfl⟩
    · refine xa_iload_n (pc := 17) dX8_ask_17 rfl ?_
      refine xa_iconst (pc := 18) (v := 0) dX8_ask_18 (by decide) ?_
      refine xa_bipush (pc := 19) (v := 15) dX8_ask_19 (by decide) ?_
      refine xa_callS (pc := 21) lcX8_159 dX8_ask_21 (cm_in E _ _ _ _ _ _) rfl rfl (by decide) (Nat.le_of_ble_eq_true rfl) (by decide) ?_
      rintro _ _ _ ⟨rfl, rfl, rfl⟩
      refine xa_if_eq (pc := 24) 52 dX8_ask_24 (by decide) (fun h24 => ?_) (fun h24 => ?_)
      · have h24 := xa_b_0.mp h24
        refine xa_iconst (pc := 52) (v := 0) dX8_ask_52 (by decide) ?_
        rw [show xm_ask nh ns S h k m = _ from if_neg (by simp [h5, h14, h24])]
        exact xa_zret dX8_ask_53 rfl (by decide) ⟨rfl, rfl, rfl⟩
      · have h24 := xa_b_n0.mp h24
        have hv2 := xm_in_15 h24
        have hb2 : xc k < 16 := xa_in_lt hv2
        refine xa_iload_n (pc := 27) dX8_ask_27 rfl ?_
        refine xa_iconst (pc := 28) (v := 0) dX8_ask_28 (by decide) ?_
        refine xa_sipush (pc := 29) (v := 255) dX8_ask_29 (by decide) ?_
        refine xa_callS (pc := 32) lcX8_159 dX8_ask_32 (cm_in E _ _ _ _ _ _) rfl rfl (by decide) (Nat.le_of_ble_eq_true rfl) (by decide) ?_
        rintro _ _ _ ⟨rfl, rfl, rfl⟩
        refine xa_if_eq (pc := 35) 52 dX8_ask_35 (by decide) (fun h35 => ?_) (fun h35 => ?_)
        · have h35 := xa_b_0.mp h35
          refine xa_iconst (pc := 52) (v := 0) dX8_ask_52 (by decide) ?_
          rw [show xm_ask nh ns S h k m = _ from if_neg (by simp [h5, h14, h24, h35])]
          exact xa_zret dX8_ask_53 rfl (by decide) ⟨rfl, rfl, rfl⟩
        · have h35 := xa_b_n0.mp h35
          refine xa_aload_n (pc := 38) dX8_ask_38 rfl ?_
          refine xa_getA (pc := 39) 8 33 164 lfX8_104 dX8_ask_39 xm_o rfl rfl rfl ?_
          refine xa_bipush (pc := 42) (v := 16) dX8_ask_42 (by decide) ?_
          refine xa_iload_n (pc := 44) dX8_ask_44 rfl ?_
          refine xa_imul (pc := 45) dX8_ask_45 ?_
          refine xa_iload_n (pc := 46) dX8_ask_46 rfl ?_
          refine xa_iadd (pc := 47) dX8_ask_47 ?_
          refine xa_zaldN (pc := 48) ((16 * (xc h)) + (xc k)) dX8_ask_48 xm_164 rfl (xa_pa (xa_pm rfl (xa_in_eq hv1)) (xa_in_eq hv2)) (by show _ < 192; omega) (by decide) ?_
          refine xa_if_eq (pc := 49) 54 dX8_ask_49 (by decide) (fun h49 => ?_) (fun h49 => ?_)
          · refine xa_aload_n (pc := 54) dX8_ask_54 rfl ?_
            refine xa_getA (pc := 55) 8 33 164 lfX8_104 dX8_ask_55 xm_o rfl rfl rfl ?_
            refine xa_bipush (pc := 58) (v := 16) dX8_ask_58 (by decide) ?_
            refine xa_iload_n (pc := 60) dX8_ask_60 rfl ?_
            refine xa_imul (pc := 61) dX8_ask_61 ?_
            refine xa_iload_n (pc := 62) dX8_ask_62 rfl ?_
            refine xa_iadd (pc := 63) dX8_ask_63 ?_
            refine xa_iconst (pc := 64) (v := 1) dX8_ask_64 (by decide) ?_
            refine xa_zastN (pc := 65) ((16 * (xc h)) + (xc k)) dX8_ask_65 xm_164 rfl (xa_pa (xa_pm rfl (xa_in_eq hv1)) (xa_in_eq hv2)) (by show _ < 192; omega) (by decide) rfl ?_
            refine xa_aload_n (pc := 66) dX8_ask_66 rfl ?_
            refine xa_getA (pc := 67) 8 34 165 lfX8_107 dX8_ask_67 xm_o rfl rfl rfl ?_
            refine xa_bipush (pc := 70) (v := 16) dX8_ask_70 (by decide) ?_
            refine xa_iload_n (pc := 72) dX8_ask_72 rfl ?_
            refine xa_imul (pc := 73) dX8_ask_73 ?_
            refine xa_iload_n (pc := 74) dX8_ask_74 rfl ?_
            refine xa_iadd (pc := 75) dX8_ask_75 ?_
            refine xa_iload_n (pc := 76) dX8_ask_76 rfl ?_
            refine xa_iastN (pc := 77) ((16 * (xc h)) + (xc k)) dX8_ask_77 xm_165 rfl (xa_pa (xa_pm rfl (xa_in_eq hv1)) (xa_in_eq hv2)) (by show _ < 192; omega) (by decide) ?_
            refine xa_aload_n (pc := 78) dX8_ask_78 rfl ?_
            refine xa_getA (pc := 79) 8 35 166 lfX8_110 dX8_ask_79 xm_o rfl rfl rfl ?_
            refine xa_bipush (pc := 82) (v := 16) dX8_ask_82 (by decide) ?_
            refine xa_iload_n (pc := 84) dX8_ask_84 rfl ?_
            refine xa_imul (pc := 85) dX8_ask_85 ?_
            refine xa_iload_n (pc := 86) dX8_ask_86 rfl ?_
            refine xa_iadd (pc := 87) dX8_ask_87 ?_
            refine xa_aload_n (pc := 88) dX8_ask_88 rfl ?_
            refine xa_getI (pc := 89) 8 36 lfX8_191 dX8_ask_89 xm_o rfl rfl ?_
            refine xa_iload_n (pc := 92) dX8_ask_92 rfl ?_
            refine xa_aload_n (pc := 93) dX8_ask_93 rfl ?_
            refine xa_getI (pc := 94) 8 36 lfX8_191 dX8_ask_94 xm_o rfl rfl ?_
            refine xa_callS (pc := 97) lcX8_204 dX8_ask_97 (cm_lot E _ _ _ _ _) rfl rfl (by decide) (Nat.le_of_ble_eq_true rfl) (by decide) ?_
            rintro _ _ _ ⟨rfl, rfl, rfl⟩
            refine xa_iadd (pc := 100) dX8_ask_100 ?_
            refine xa_iastN (pc := 101) ((16 * (xc h)) + (xc k)) dX8_ask_101 xm_166 rfl (xa_pa (xa_pm rfl (xa_in_eq hv1)) (xa_in_eq hv2)) (by show _ < 192; omega) (by decide) ?_
            refine xa_iconst (pc := 102) (v := 1) dX8_ask_102 (by decide) ?_
            rw [show xm_ask nh ns S h k m = _ from if_pos (by simp [h5, h14, h24, h35, h49])]
            exact xa_zret dX8_ask_103 rfl (by decide) ⟨rfl, rfl, rfl⟩
          · refine xa_iconst (pc := 52) (v := 0) dX8_ask_52 (by decide) ?_
            rw [show xm_ask nh ns S h k m = _ from if_neg (by simp [h5, h14, h24, h35, h49])]
            exact xa_zret dX8_ask_53 rfl (by decide) ⟨rfl, rfl, rfl⟩
def xm_sleep (nh ns : Nat) (S : xa_AH) (h q : Int32) : Bool × xa_AH := if (xm_up nh S h && (xm_up nh S q && (decide (¬ h = q) && (decide (S 131 (xc h) = S 131 (xc q)) && (decide (S 139 (xc h) = 0) && (decide (S 139 (xc q) = 0) && decide (S 138 (xc h) = 0))))))) = true then (true, (xa_up (xa_up S 136 (xc h) 1) 141 (xc h) q)) else (false, S)
set_option maxHeartbeats 4000000 in
theorem cm_sleep (E : xa_EV) (S : xa_AH) {nh ns : Nat} (hW : xm_wf nh ns S) (h q : Int32) : xa_Ct E mX8_sleep [.ref 130, .int h, .int q] xm_L S xm_R (xa_pR (.int (xa_b (xm_sleep nh ns S h q).1)) (xm_sleep nh ns S h q).2 xm_R) := by
  refine xa_Ct.of [some (.ref 130), some (.int h), some (.int q)] rfl (Nat.le_of_ble_eq_true rfl) (by simp [Value.category]) rfl ?_
  obtain ⟨w1, w2, w3, w4, w5⟩ := id hW
  refine xa_aload_n (pc := 0) dX8_sleep_0 rfl ?_
  refine xa_iload_n (pc := 1) dX8_sleep_1 rfl ?_
  refine xa_callV (pc := 2) xm_o rfl rfl lcX8_173 dX8_sleep_2 (cm_isUp E _ hW _) rfl rfl (by decide) (Nat.le_of_ble_eq_true rfl) (by decide) ?_
  rintro _ _ _ ⟨rfl, rfl, rfl⟩
  refine xa_if_eq (pc := 5) 63 dX8_sleep_5 (by decide) (fun h5 => ?_) (fun h5 => ?_)
  · have h5 := xa_b_0.mp h5
    refine xa_iconst (pc := 63) (v := 0) dX8_sleep_63 (by decide) ?_
    rw [show xm_sleep nh ns S h q = _ from if_neg (by simp [h5])]
    exact xa_zret dX8_sleep_64 rfl (by decide) ⟨rfl, rfl, rfl⟩
  · have h5 := xa_b_n0.mp h5
    have hv1 := (xm_isH_t (by omega)).mp (xm_up_h h5)
    have hb1 : xc h < nh := xa_in_lt hv1
    refine xa_aload_n (pc := 8) dX8_sleep_8 rfl ?_
    refine xa_iload_n (pc := 9) dX8_sleep_9 rfl ?_
    refine xa_callV (pc := 10) xm_o rfl rfl lcX8_173 dX8_sleep_10 (cm_isUp E _ hW _) rfl rfl (by decide) (Nat.le_of_ble_eq_true rfl) (by decide) ?_
    rintro _ _ _ ⟨rfl, rfl, rfl⟩
    refine xa_if_eq (pc := 13) 63 dX8_sleep_13 (by decide) (fun h13 => ?_) (fun h13 => ?_)
    · have h13 := xa_b_0.mp h13
      refine xa_iconst (pc := 63) (v := 0) dX8_sleep_63 (by decide) ?_
      rw [show xm_sleep nh ns S h q = _ from if_neg (by simp [h5, h13])]
      exact xa_zret dX8_sleep_64 rfl (by decide) ⟨rfl, rfl, rfl⟩
    · have h13 := xa_b_n0.mp h13
      have hv2 := (xm_isH_t (by omega)).mp (xm_up_h h13)
      have hb2 : xc q < nh := xa_in_lt hv2
      refine xa_iload_n (pc := 16) dX8_sleep_16 rfl ?_
      refine xa_iload_n (pc := 17) dX8_sleep_17 rfl ?_
      refine xa_icmp_eq (pc := 18) 63 dX8_sleep_18 (by decide) (fun h18 => ?_) (fun h18 => ?_)
      · refine xa_iconst (pc := 63) (v := 0) dX8_sleep_63 (by decide) ?_
        rw [show xm_sleep nh ns S h q = _ from if_neg (by simp [h5, h13, h18])]
        exact xa_zret dX8_sleep_64 rfl (by decide) ⟨rfl, rfl, rfl⟩
      · refine xa_aload_n (pc := 21) dX8_sleep_21 rfl ?_
        refine xa_getA (pc := 22) 8 0 131 lfX8_9 dX8_sleep_22 xm_o rfl rfl rfl ?_
        refine xa_iload_n (pc := 25) dX8_sleep_25 rfl ?_
        refine xa_ialdN (pc := 26) (xc h) dX8_sleep_26 xm_131 rfl (xa_in_eq hv1) (by show _ < 12; omega) (by decide) ?_
        refine xa_aload_n (pc := 27) dX8_sleep_27 rfl ?_
        refine xa_getA (pc := 28) 8 0 131 lfX8_9 dX8_sleep_28 xm_o rfl rfl rfl ?_
        refine xa_iload_n (pc := 31) dX8_sleep_31 rfl ?_
        refine xa_ialdN (pc := 32) (xc q) dX8_sleep_32 xm_131 rfl (xa_in_eq hv2) (by show _ < 12; omega) (by decide) ?_
        refine xa_icmp_ne (pc := 33) 63 dX8_sleep_33 (by decide) (fun h33 => ?_) (fun h33 => ?_)
        · refine xa_iconst (pc := 63) (v := 0) dX8_sleep_63 (by decide) ?_
          rw [show xm_sleep nh ns S h q = _ from if_neg (by simp [h5, h13, h18, h33])]
          exact xa_zret dX8_sleep_64 rfl (by decide) ⟨rfl, rfl, rfl⟩
        · refine xa_aload_n (pc := 36) dX8_sleep_36 rfl ?_
          refine xa_getA (pc := 37) 8 8 139 lfX8_35 dX8_sleep_37 xm_o rfl rfl rfl ?_
          refine xa_iload_n (pc := 40) dX8_sleep_40 rfl ?_
          refine xa_zaldN (pc := 41) (xc h) dX8_sleep_41 xm_139 rfl (xa_in_eq hv1) (by show _ < 12; omega) (by decide) ?_
          refine xa_if_ne (pc := 42) 63 dX8_sleep_42 (by decide) (fun h42 => ?_) (fun h42 => ?_)
          · refine xa_iconst (pc := 63) (v := 0) dX8_sleep_63 (by decide) ?_
            rw [show xm_sleep nh ns S h q = _ from if_neg (by simp [h5, h13, h18, h33, h42])]
            exact xa_zret dX8_sleep_64 rfl (by decide) ⟨rfl, rfl, rfl⟩
          · refine xa_aload_n (pc := 45) dX8_sleep_45 rfl ?_
            refine xa_getA (pc := 46) 8 8 139 lfX8_35 dX8_sleep_46 xm_o rfl rfl rfl ?_
            refine xa_iload_n (pc := 49) dX8_sleep_49 rfl ?_
            refine xa_zaldN (pc := 50) (xc q) dX8_sleep_50 xm_139 rfl (xa_in_eq hv2) (by show _ < 12; omega) (by decide) ?_
            refine xa_if_ne (pc := 51) 63 dX8_sleep_51 (by decide) (fun h51 => ?_) (fun h51 => ?_)
            · refine xa_iconst (pc := 63) (v := 0) dX8_sleep_63 (by decide) ?_
              rw [show xm_sleep nh ns S h q = _ from if_neg (by simp [h5, h13, h18, h33, h42, h51])]
              exact xa_zret dX8_sleep_64 rfl (by decide) ⟨rfl, rfl, rfl⟩
            · refine xa_aload_n (pc := 54) dX8_sleep_54 rfl ?_
              refine xa_getA (pc := 55) 8 7 138 lfX8_32 dX8_sleep_55 xm_o rfl rfl rfl ?_
              refine xa_iload_n (pc := 58) dX8_sleep_58 rfl ?_
              refine xa_zaldN (pc := 59) (xc h) dX8_sleep_59 xm_138 rfl (xa_in_eq hv1) (by show _ < 12; omega) (by decide) ?_
              refine xa_if_eq (pc := 60) 65 dX8_sleep_60 (by decide) (fun h60 => ?_) (fun h60 => ?_)
              · refine xa_aload_n (pc := 65) dX8_sleep_65 rfl ?_
                refine xa_getA (pc := 66) 8 5 136 lfX8_25 dX8_sleep_66 xm_o rfl rfl rfl ?_
                refine xa_iload_n (pc := 69) dX8_sleep_69 rfl ?_
                refine xa_iconst (pc := 70) (v := 1) dX8_sleep_70 (by decide) ?_
                refine xa_iastN (pc := 71) (xc h) dX8_sleep_71 xm_136 rfl (xa_in_eq hv1) (by show _ < 12; omega) (by decide) ?_
                refine xa_aload_n (pc := 72) dX8_sleep_72 rfl ?_
                refine xa_getA (pc := 73) 8 10 141 lfX8_41 dX8_sleep_73 xm_o rfl rfl rfl ?_
                refine xa_iload_n (pc := 76) dX8_sleep_76 rfl ?_
                refine xa_iload_n (pc := 77) dX8_sleep_77 rfl ?_
                refine xa_iastN (pc := 78) (xc h) dX8_sleep_78 xm_141 rfl (xa_in_eq hv1) (by show _ < 12; omega) (by decide) ?_
                refine xa_iconst (pc := 79) (v := 1) dX8_sleep_79 (by decide) ?_
                rw [show xm_sleep nh ns S h q = _ from if_pos (by simp [h5, h13, h18, h33, h42, h51, h60])]
                exact xa_zret dX8_sleep_80 rfl (by decide) ⟨rfl, rfl, rfl⟩
              · refine xa_iconst (pc := 63) (v := 0) dX8_sleep_63 (by decide) ?_
                rw [show xm_sleep nh ns S h q = _ from if_neg (by simp [h5, h13, h18, h33, h42, h51, h60])]
                exact xa_zret dX8_sleep_64 rfl (by decide) ⟨rfl, rfl, rfl⟩
def xm_offer (nh ns : Nat) (S : xa_AH) (h k n m l : Int32) : Int32 × xa_AH := if (xm_may nh ns S h k m l && (xm_in n (S 133 (xc h)) (S 134 (xc h)) && !xa_any (xm_np S h n (-1)) ns)) = true then (nI ns, xm_comes ns S h k n m l) else (-1, S)
set_option maxHeartbeats 4000000 in
theorem cm_offer (E : xa_EV) (S : xa_AH) {nh ns : Nat} (hW : xm_wf nh ns S) (h k n m l : Int32) : xa_Ct E mX8_offer [.ref 130, .int h, .int k, .int n, .int m, .int l] xm_L S xm_R (xa_pR (.int (xm_offer nh ns S h k n m l).1) (xm_offer nh ns S h k n m l).2 xm_R) := by
  refine xa_Ct.of [some (.ref 130), some (.int h), some (.int k), some (.int n), some (.int m), some (.int l)] rfl (Nat.le_of_ble_eq_true rfl) (by simp [Value.category]) rfl ?_
  obtain ⟨w1, w2, w3, w4, w5⟩ := id hW
  refine xa_aload_n (pc := 0) dX8_offer_0 rfl ?_
  refine xa_iload_n (pc := 1) dX8_offer_1 rfl ?_
  refine xa_iload_n (pc := 2) dX8_offer_2 rfl ?_
  refine xa_iload (pc := 3) dX8_offer_3 rfl ?_
  refine xa_iload (pc := 5) dX8_offer_5 rfl ?_
  refine xa_callV (pc := 7) xm_o rfl rfl lcX8_180 dX8_offer_7 (cm_mayOffer E _ hW _ _ _ _) rfl rfl (by decide) (Nat.le_of_ble_eq_true rfl) (by decide) ?_
  rintro _ _ _ ⟨rfl, rfl, rfl⟩
  refine xa_if_eq (pc := 10) 42 dX8_offer_10 (by decide) (fun h10 => ?_) (fun h10 => ?_)
  · have h10 := xa_b_0.mp h10
    refine xa_iconst (pc := 42) (v := (-1)) dX8_offer_42 (by decide) ?_
    rw [show xm_offer nh ns S h k n m l = _ from if_neg (by simp [h10])]
    exact xa_zret dX8_offer_43 rfl rfl ⟨rfl, rfl, rfl⟩
  · have h10 := xa_b_n0.mp h10
    have hn9 := xm_may_ns h10
    have hv1 := (xm_isH_t (by omega)).mp (xm_up_h (xm_may_up h10))
    have hb1 : xc h < nh := xa_in_lt hv1
    refine xa_iload_n (pc := 13) dX8_offer_13 rfl ?_
    refine xa_aload_n (pc := 14) dX8_offer_14 rfl ?_
    refine xa_getA (pc := 15) 8 2 133 lfX8_16 dX8_offer_15 xm_o rfl rfl rfl ?_
    refine xa_iload_n (pc := 18) dX8_offer_18 rfl ?_
    refine xa_ialdN (pc := 19) (xc h) dX8_offer_19 xm_133 rfl (xa_in_eq hv1) (by show _ < 12; omega) (by decide) ?_
    refine xa_aload_n (pc := 20) dX8_offer_20 rfl ?_
    refine xa_getA (pc := 21) 8 3 134 lfX8_19 dX8_offer_21 xm_o rfl rfl rfl ?_
    refine xa_iload_n (pc := 24) dX8_offer_24 rfl ?_
    refine xa_ialdN (pc := 25) (xc h) dX8_offer_25 xm_134 rfl (xa_in_eq hv1) (by show _ < 12; omega) (by decide) ?_
    refine xa_callS (pc := 26) lcX8_159 dX8_offer_26 (cm_in E _ _ _ _ _ _) rfl rfl (by decide) (Nat.le_of_ble_eq_true rfl) (by decide) ?_
    rintro _ _ _ ⟨rfl, rfl, rfl⟩
    refine xa_if_eq (pc := 29) 42 dX8_offer_29 (by decide) (fun h29 => ?_) (fun h29 => ?_)
    · have h29 := xa_b_0.mp h29
      refine xa_iconst (pc := 42) (v := (-1)) dX8_offer_42 (by decide) ?_
      rw [show xm_offer nh ns S h k n m l = _ from if_neg (by simp [h10, h29])]
      exact xa_zret dX8_offer_43 rfl rfl ⟨rfl, rfl, rfl⟩
    · have h29 := xa_b_n0.mp h29
      refine xa_aload_n (pc := 32) dX8_offer_32 rfl ?_
      refine xa_iload_n (pc := 33) dX8_offer_33 rfl ?_
      refine xa_iload_n (pc := 34) dX8_offer_34 rfl ?_
      refine xa_iconst (pc := 35) (v := (-1)) dX8_offer_35 (by decide) ?_
      refine xa_callV (pc := 36) xm_o rfl rfl lcX8_184 dX8_offer_36 (cm_isNamed E _ hW _ _ _) rfl rfl (by decide) (Nat.le_of_ble_eq_true rfl) (by decide) ?_
      rintro _ _ _ ⟨rfl, rfl, rfl⟩
      refine xa_if_eq (pc := 39) 44 dX8_offer_39 (by decide) (fun h39 => ?_) (fun h39 => ?_)
      · have h39 := xa_b_0.mp h39
        refine xa_aload_n (pc := 44) dX8_offer_44 rfl ?_
        refine xa_iload_n (pc := 45) dX8_offer_45 rfl ?_
        refine xa_iload_n (pc := 46) dX8_offer_46 rfl ?_
        refine xa_iload_n (pc := 47) dX8_offer_47 rfl ?_
        refine xa_iload (pc := 48) dX8_offer_48 rfl ?_
        refine xa_iload (pc := 50) dX8_offer_50 rfl ?_
        refine xa_callV (pc := 52) xm_o rfl rfl lcX8_187 dX8_offer_52 (cm_comes E _ hW (by omega) _ _ _ _ _) rfl rfl (by decide) (Nat.le_of_ble_eq_true rfl) (by decide) ?_
        rintro _ _ _ ⟨rfl, rfl, rfl⟩
        rw [show xm_offer nh ns S h k n m l = _ from if_pos (by simp [h10, h29, h39])]
        exact xa_zret dX8_offer_55 rfl rfl ⟨rfl, rfl, rfl⟩
      · have h39 := xa_b_n0.mp h39
        refine xa_iconst (pc := 42) (v := (-1)) dX8_offer_42 (by decide) ?_
        rw [show xm_offer nh ns S h k n m l = _ from if_neg (by simp [h10, h29, h39])]
        exact xa_zret dX8_offer_43 rfl rfl ⟨rfl, rfl, rfl⟩
def xm_lie (nh ns : Nat) (S : xa_AH) (h k n m l : Int32) : Int32 × xa_AH := if (xm_may nh ns S h k m l && (xm_in n 1 250 && !xa_any (xm_np S h n (-1)) ns)) = true then (nI ns, (xa_up (xa_up (xa_up (xa_up (xm_comes ns S h k n m l) 156 ns 1) 151 ns 2) 152 ns 0) 153 ns (S 130 36))) else (-1, S)
set_option maxHeartbeats 4000000 in
theorem cm_lie (E : xa_EV) (S : xa_AH) {nh ns : Nat} (hW : xm_wf nh ns S) (h k n m l : Int32) : xa_Ct E mX8_lie [.ref 130, .int h, .int k, .int n, .int m, .int l] xm_L S xm_R (xa_pR (.int (xm_lie nh ns S h k n m l).1) (xm_lie nh ns S h k n m l).2 xm_R) := by
  refine xa_Ct.of [some (.ref 130), some (.int h), some (.int k), some (.int n), some (.int m), some (.int l), none] rfl (Nat.le_of_ble_eq_true rfl) (by simp [Value.category]) rfl ?_
  obtain ⟨w1, w2, w3, w4, w5⟩ := id hW
  refine xa_aload_n (pc := 0) dX8_lie_0 rfl ?_
  refine xa_iload_n (pc := 1) dX8_lie_1 rfl ?_
  refine xa_iload_n (pc := 2) dX8_lie_2 rfl ?_
  refine xa_iload (pc := 3) dX8_lie_3 rfl ?_
  refine xa_iload (pc := 5) dX8_lie_5 rfl ?_
  refine xa_callV (pc := 7) xm_o rfl rfl lcX8_180 dX8_lie_7 (cm_mayOffer E _ hW _ _ _ _) rfl rfl (by decide) (Nat.le_of_ble_eq_true rfl) (by decide) ?_
  rintro _ _ _ ⟨rfl, rfl, rfl⟩
  refine xa_if_eq (pc := 10) 34 dX8_lie_10 (by decide) (fun h10 => ?_) (fun h10 => ?_)
  · have h10 := xa_b_0.mp h10
    refine xa_iconst (pc := 34) (v := (-1)) dX8_lie_34 (by decide) ?_
    rw [show xm_lie nh ns S h k n m l = _ from if_neg (by simp [h10])]
    exact xa_zret dX8_lie_35 rfl rfl ⟨rfl, rfl, rfl⟩
  · have h10 := xa_b_n0.mp h10
    have hn9 := xm_may_ns h10
    have hv1 := (xm_isH_t (by omega)).mp (xm_up_h (xm_may_up h10))
    have hb1 : xc h < nh := xa_in_lt hv1
    refine xa_iload_n (pc := 13) dX8_lie_13 rfl ?_
    refine xa_iconst (pc := 14) (v := 1) dX8_lie_14 (by decide) ?_
    refine xa_sipush (pc := 15) (v := 250) dX8_lie_15 (by decide) ?_
    refine xa_callS (pc := 18) lcX8_159 dX8_lie_18 (cm_in E _ _ _ _ _ _) rfl rfl (by decide) (Nat.le_of_ble_eq_true rfl) (by decide) ?_
    rintro _ _ _ ⟨rfl, rfl, rfl⟩
    refine xa_if_eq (pc := 21) 34 dX8_lie_21 (by decide) (fun h21 => ?_) (fun h21 => ?_)
    · have h21 := xa_b_0.mp h21
      refine xa_iconst (pc := 34) (v := (-1)) dX8_lie_34 (by decide) ?_
      rw [show xm_lie nh ns S h k n m l = _ from if_neg (by simp [h10, h21])]
      exact xa_zret dX8_lie_35 rfl rfl ⟨rfl, rfl, rfl⟩
    · have h21 := xa_b_n0.mp h21
      refine xa_aload_n (pc := 24) dX8_lie_24 rfl ?_
      refine xa_iload_n (pc := 25) dX8_lie_25 rfl ?_
      refine xa_iload_n (pc := 26) dX8_lie_26 rfl ?_
      refine xa_iconst (pc := 27) (v := (-1)) dX8_lie_27 (by decide) ?_
      refine xa_callV (pc := 28) xm_o rfl rfl lcX8_184 dX8_lie_28 (cm_isNamed E _ hW _ _ _) rfl rfl (by decide) (Nat.le_of_ble_eq_true rfl) (by decide) ?_
      rintro _ _ _ ⟨rfl, rfl, rfl⟩
      refine xa_if_eq (pc := 31) 36 dX8_lie_31 (by decide) (fun h31 => ?_) (fun h31 => ?_)
      · have h31 := xa_b_0.mp h31
        refine xa_aload_n (pc := 36) dX8_lie_36 rfl ?_
        refine xa_iload_n (pc := 37) dX8_lie_37 rfl ?_
        refine xa_iload_n (pc := 38) dX8_lie_38 rfl ?_
        refine xa_iload_n (pc := 39) dX8_lie_39 rfl ?_
        refine xa_iload (pc := 40) dX8_lie_40 rfl ?_
        refine xa_iload (pc := 42) dX8_lie_42 rfl ?_
        refine xa_callV (pc := 44) xm_o rfl rfl lcX8_187 dX8_lie_44 (cm_comes E _ hW (by omega) _ _ _ _ _) rfl rfl (by decide) (Nat.le_of_ble_eq_true rfl) (by decide) ?_
        rintro _ _ _ ⟨rfl, rfl, rfl⟩
        refine xa_istore (pc := 47) dX8_lie_47 (by decide) ?_
        refine xa_aload_n (pc := 49) dX8_lie_49 rfl ?_
        refine xa_getA (pc := 50) 8 25 156 lfX8_83 dX8_lie_50 xm_o rfl rfl rfl ?_
        refine xa_iload (pc := 53) dX8_lie_53 rfl ?_
        refine xa_iconst (pc := 55) (v := 1) dX8_lie_55 (by decide) ?_
        refine xa_zastN (pc := 56) ns dX8_lie_56 xm_156 rfl rfl (by show _ < 32; omega) (by decide) rfl ?_
        refine xa_aload_n (pc := 57) dX8_lie_57 rfl ?_
        refine xa_getA (pc := 58) 8 20 151 lfX8_68 dX8_lie_58 xm_o rfl rfl rfl ?_
        refine xa_iload (pc := 61) dX8_lie_61 rfl ?_
        refine xa_iconst (pc := 63) (v := 2) dX8_lie_63 (by decide) ?_
        refine xa_iastN (pc := 64) ns dX8_lie_64 xm_151 rfl rfl (by show _ < 32; omega) (by decide) ?_
        refine xa_aload_n (pc := 65) dX8_lie_65 rfl ?_
        refine xa_getA (pc := 66) 8 21 152 lfX8_71 dX8_lie_66 xm_o rfl rfl rfl ?_
        refine xa_iload (pc := 69) dX8_lie_69 rfl ?_
        refine xa_iconst (pc := 71) (v := 0) dX8_lie_71 (by decide) ?_
        refine xa_iastN (pc := 72) ns dX8_lie_72 xm_152 rfl rfl (by show _ < 32; omega) (by decide) ?_
        refine xa_aload_n (pc := 73) dX8_lie_73 rfl ?_
        refine xa_getA (pc := 74) 8 22 153 lfX8_74 dX8_lie_74 xm_o rfl rfl rfl ?_
        refine xa_iload (pc := 77) dX8_lie_77 rfl ?_
        refine xa_aload_n (pc := 79) dX8_lie_79 rfl ?_
        refine xa_getI (pc := 80) 8 36 lfX8_191 dX8_lie_80 xm_o rfl rfl ?_
        refine xa_iastN (pc := 83) ns dX8_lie_83 xm_153 rfl rfl (by show _ < 32; omega) (by decide) ?_
        refine xa_iload (pc := 84) dX8_lie_84 rfl ?_
        rw [show xm_lie nh ns S h k n m l = _ from if_pos (by simp [h10, h21, h31])]
        exact xa_zret dX8_lie_86 rfl rfl ⟨rfl, rfl, rfl⟩
      · have h31 := xa_b_n0.mp h31
        refine xa_iconst (pc := 34) (v := (-1)) dX8_lie_34 (by decide) ?_
        rw [show xm_lie nh ns S h k n m l = _ from if_neg (by simp [h10, h21, h31])]
        exact xa_zret dX8_lie_35 rfl rfl ⟨rfl, rfl, rfl⟩
def xm_host (nh ns : Nat) (S : xa_AH) (net lo hg rk : Int32) : Int32 × xa_AH := if (xm_in net 0 3 && (xm_in lo 1 250 && (xm_in hg lo 250 && (xm_in rk 0 1000 && decide (¬ nh = 12))))) = true then (nI nh, (xa_up (xa_up (xa_up (xa_up (xa_up (xa_up (xa_up (xa_up S 131 nh net) 132 nh (-1)) 133 nh lo) 134 nh hg) 135 nh rk) 136 nh 2) 141 nh (-1)) 130 14 (S 130 14 + 1))) else (-1, S)
set_option maxHeartbeats 4000000 in
theorem cm_host (E : xa_EV) (S : xa_AH) {nh ns : Nat} (hW : xm_wf nh ns S) (net lo hg rk : Int32) : xa_Ct E mX8_host [.ref 130, .int net, .int lo, .int hg, .int rk] xm_L S xm_R (xa_pR (.int (xm_host nh ns S net lo hg rk).1) (xm_host nh ns S net lo hg rk).2 xm_R) := by
  refine xa_Ct.of [some (.ref 130), some (.int net), some (.int lo), some (.int hg), some (.int rk), none] rfl (Nat.le_of_ble_eq_true rfl) (by simp [Value.category]) rfl ?_
  obtain ⟨w1, w2, w3, w4, w5⟩ := id hW
  refine xa_iload_n (pc := 0) dX8_host_0 rfl ?_
  refine xa_iconst (pc := 1) (v := 0) dX8_host_1 (by decide) ?_
  refine xa_iconst (pc := 2) (v := 3) dX8_host_2 (by decide) ?_
  refine xa_callS (pc := 3) lcX8_159 dX8_host_3 (cm_in E _ _ _ _ _ _) rfl rfl (by decide) (Nat.le_of_ble_eq_true rfl) (by decide) ?_
  rintro _ _ _ ⟨rfl, rfl, rfl⟩
  refine xa_if_eq (pc := 6) 52 dX8_host_6 (by decide) (fun h6 => ?_) (fun h6 => ?_)
  · have h6 := xa_b_0.mp h6
    refine xa_iconst (pc := 52) (v := (-1)) dX8_host_52 (by decide) ?_
    rw [show xm_host nh ns S net lo hg rk = _ from if_neg (by simp [h6])]
    exact xa_zret dX8_host_53 rfl rfl ⟨rfl, rfl, rfl⟩
  · have h6 := xa_b_n0.mp h6
    refine xa_iload_n (pc := 9) dX8_host_9 rfl ?_
    refine xa_iconst (pc := 10) (v := 1) dX8_host_10 (by decide) ?_
    refine xa_sipush (pc := 11) (v := 250) dX8_host_11 (by decide) ?_
    refine xa_callS (pc := 14) lcX8_159 dX8_host_14 (cm_in E _ _ _ _ _ _) rfl rfl (by decide) (Nat.le_of_ble_eq_true rfl) (by decide) ?_
    rintro _ _ _ ⟨rfl, rfl, rfl⟩
    refine xa_if_eq (pc := 17) 52 dX8_host_17 (by decide) (fun h17 => ?_) (fun h17 => ?_)
    · have h17 := xa_b_0.mp h17
      refine xa_iconst (pc := 52) (v := (-1)) dX8_host_52 (by decide) ?_
      rw [show xm_host nh ns S net lo hg rk = _ from if_neg (by simp [h6, h17])]
      exact xa_zret dX8_host_53 rfl rfl ⟨rfl, rfl, rfl⟩
    · have h17 := xa_b_n0.mp h17
      refine xa_iload_n (pc := 20) dX8_host_20 rfl ?_
      refine xa_iload_n (pc := 21) dX8_host_21 rfl ?_
      refine xa_sipush (pc := 22) (v := 250) dX8_host_22 (by decide) ?_
      refine xa_callS (pc := 25) lcX8_159 dX8_host_25 (cm_in E _ _ _ _ _ _) rfl rfl (by decide) (Nat.le_of_ble_eq_true rfl) (by decide) ?_
      rintro _ _ _ ⟨rfl, rfl, rfl⟩
      refine xa_if_eq (pc := 28) 52 dX8_host_28 (by decide) (fun h28 => ?_) (fun h28 => ?_)
      · have h28 := xa_b_0.mp h28
        refine xa_iconst (pc := 52) (v := (-1)) dX8_host_52 (by decide) ?_
        rw [show xm_host nh ns S net lo hg rk = _ from if_neg (by simp [h6, h17, h28])]
        exact xa_zret dX8_host_53 rfl rfl ⟨rfl, rfl, rfl⟩
      · have h28 := xa_b_n0.mp h28
        refine xa_iload (pc := 31) dX8_host_31 rfl ?_
        refine xa_iconst (pc := 33) (v := 0) dX8_host_33 (by decide) ?_
        refine xa_sipush (pc := 34) (v := 1000) dX8_host_34 (by decide) ?_
        refine xa_callS (pc := 37) lcX8_159 dX8_host_37 (cm_in E _ _ _ _ _ _) rfl rfl (by decide) (Nat.le_of_ble_eq_true rfl) (by decide) ?_
        rintro _ _ _ ⟨rfl, rfl, rfl⟩
        refine xa_if_eq (pc := 40) 52 dX8_host_40 (by decide) (fun h40 => ?_) (fun h40 => ?_)
        · have h40 := xa_b_0.mp h40
          refine xa_iconst (pc := 52) (v := (-1)) dX8_host_52 (by decide) ?_
          rw [show xm_host nh ns S net lo hg rk = _ from if_neg (by simp [h6, h17, h28, h40])]
          exact xa_zret dX8_host_53 rfl rfl ⟨rfl, rfl, rfl⟩
        · have h40 := xa_b_n0.mp h40
          refine xa_aload_n (pc := 43) dX8_host_43 rfl ?_
          refine xa_getI (pc := 44) 8 14 lfX8_155 dX8_host_44 xm_o rfl rfl ?_
          refine xa_bipush (pc := 47) (v := 12) dX8_host_47 (by decide) ?_
          refine xa_icmpN_ne (pc := 49) 54 nh 12 dX8_host_49 (by decide) w3 rfl (by omega) (by omega) (fun h49 => ?_) (fun h49 => ?_)
          · refine xa_aload_n (pc := 54) dX8_host_54 rfl ?_
            refine xa_getI (pc := 55) 8 14 lfX8_155 dX8_host_55 xm_o rfl rfl ?_
            refine xa_istore (pc := 58) dX8_host_58 (by decide) ?_
            refine xa_aload_n (pc := 60) dX8_host_60 rfl ?_
            refine xa_getA (pc := 61) 8 0 131 lfX8_9 dX8_host_61 xm_o rfl rfl rfl ?_
            refine xa_iload (pc := 64) dX8_host_64 rfl ?_
            refine xa_iload_n (pc := 66) dX8_host_66 rfl ?_
            refine xa_iastN (pc := 67) nh dX8_host_67 xm_131 rfl w3 (by show _ < 12; omega) (by decide) ?_
            refine xa_aload_n (pc := 68) dX8_host_68 rfl ?_
            refine xa_getA (pc := 69) 8 1 132 lfX8_13 dX8_host_69 xm_o rfl rfl rfl ?_
            refine xa_iload (pc := 72) dX8_host_72 rfl ?_
            refine xa_iconst (pc := 74) (v := (-1)) dX8_host_74 (by decide) ?_
            refine xa_iastN (pc := 75) nh dX8_host_75 xm_132 rfl w3 (by show _ < 12; omega) (by decide) ?_
            refine xa_aload_n (pc := 76) dX8_host_76 rfl ?_
            refine xa_getA (pc := 77) 8 2 133 lfX8_16 dX8_host_77 xm_o rfl rfl rfl ?_
            refine xa_iload (pc := 80) dX8_host_80 rfl ?_
            refine xa_iload_n (pc := 82) dX8_host_82 rfl ?_
            refine xa_iastN (pc := 83) nh dX8_host_83 xm_133 rfl w3 (by show _ < 12; omega) (by decide) ?_
            refine xa_aload_n (pc := 84) dX8_host_84 rfl ?_
            refine xa_getA (pc := 85) 8 3 134 lfX8_19 dX8_host_85 xm_o rfl rfl rfl ?_
            refine xa_iload (pc := 88) dX8_host_88 rfl ?_
            refine xa_iload_n (pc := 90) dX8_host_90 rfl ?_
            refine xa_iastN (pc := 91) nh dX8_host_91 xm_134 rfl w3 (by show _ < 12; omega) (by decide) ?_
            refine xa_aload_n (pc := 92) dX8_host_92 rfl ?_
            refine xa_getA (pc := 93) 8 4 135 lfX8_22 dX8_host_93 xm_o rfl rfl rfl ?_
            refine xa_iload (pc := 96) dX8_host_96 rfl ?_
            refine xa_iload (pc := 98) dX8_host_98 rfl ?_
            refine xa_iastN (pc := 100) nh dX8_host_100 xm_135 rfl w3 (by show _ < 12; omega) (by decide) ?_
            refine xa_aload_n (pc := 101) dX8_host_101 rfl ?_
            refine xa_getA (pc := 102) 8 5 136 lfX8_25 dX8_host_102 xm_o rfl rfl rfl ?_
            refine xa_iload (pc := 105) dX8_host_105 rfl ?_
            refine xa_iconst (pc := 107) (v := 2) dX8_host_107 (by decide) ?_
            refine xa_iastN (pc := 108) nh dX8_host_108 xm_136 rfl w3 (by show _ < 12; omega) (by decide) ?_
            refine xa_aload_n (pc := 109) dX8_host_109 rfl ?_
            refine xa_getA (pc := 110) 8 10 141 lfX8_41 dX8_host_110 xm_o rfl rfl rfl ?_
            refine xa_iload (pc := 113) dX8_host_113 rfl ?_
            refine xa_iconst (pc := 115) (v := (-1)) dX8_host_115 (by decide) ?_
            refine xa_iastN (pc := 116) nh dX8_host_116 xm_141 rfl w3 (by show _ < 12; omega) (by decide) ?_
            refine xa_aload_n (pc := 117) dX8_host_117 rfl ?_
            refine xa_dup (pc := 118) dX8_host_118 rfl ?_
            refine xa_getI (pc := 119) 8 14 lfX8_155 dX8_host_119 xm_o rfl rfl ?_
            refine xa_iconst (pc := 122) (v := 1) dX8_host_122 (by decide) ?_
            refine xa_iadd (pc := 123) dX8_host_123 ?_
            refine xa_putI (pc := 124) 8 14 lpX8_155 dX8_host_124 xm_o rfl rfl rfl rfl ?_
            refine xa_iload (pc := 127) dX8_host_127 rfl ?_
            rw [show xm_host nh ns S net lo hg rk = _ from if_pos (by simp [h6, h17, h28, h40, h49])]
            exact xa_zret dX8_host_129 rfl rfl ⟨by rw [w3], rfl, rfl⟩
          · refine xa_iconst (pc := 52) (v := (-1)) dX8_host_52 (by decide) ?_
            rw [show xm_host nh ns S net lo hg rk = _ from if_neg (by simp [h6, h17, h28, h40, h49])]
            exact xa_zret dX8_host_53 rfl rfl ⟨rfl, rfl, rfl⟩
