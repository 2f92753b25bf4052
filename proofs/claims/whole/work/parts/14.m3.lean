def xm_may (nh ns : Nat) (S : xa_AH) (h k m l : Int32) : Bool := xm_up nh S h && (decide (S 139 (xc h) = 0) && (decide (xa_ct (xm_mp S h) ns < 4) && (xm_in k 0 15 && (xm_in m 0 255 && (xm_in l 4 200 && decide (ns < 32))))))
set_option maxHeartbeats 4000000 in
theorem cm_mayOffer (E : xa_EV) (S : xa_AH) {nh ns : Nat} (hW : xm_wf nh ns S) (h k m l : Int32) : xa_Ct E mX8_mayOffer [.ref 130, .int h, .int k, .int m, .int l] xm_L S xm_R (xa_pR (.int (xa_b (xm_may nh ns S h k m l))) S xm_R) := by
  refine xa_Ct.of [some (.ref 130), some (.int h), some (.int k), some (.int m), some (.int l)] rfl (Nat.le_of_ble_eq_true rfl) (by simp [Value.category]) rfl ?_
  obtain ⟨w1, w2, w3, w4, w5⟩ := id hW
  have hct := xa_ct_le (xm_mp S h) ns
  refine xa_aload_n (pc := 0) dX8_mayOffer_0 rfl ?_
  refine xa_iload_n (pc := 1) dX8_mayOffer_1 rfl ?_
  refine xa_callV (pc := 2) xm_o rfl rfl lcX8_173 dX8_mayOffer_2 (cm_isUp E _ hW _) rfl rfl (by decide) (Nat.le_of_ble_eq_true rfl) (by decide) ?_
  rintro _ _ _ ⟨rfl, rfl, rfl⟩
  refine xa_if_eq (pc := 5) 72 dX8_mayOffer_5 (by decide) (fun h5 => ?_) (fun h5 => ?_)
  · have h5 := xa_b_0.mp h5
    refine xa_iconst (pc := 72) (v := 0) dX8_mayOffer_72 (by decide) ?_
    exact xa_zret dX8_mayOffer_73 rfl (by decide) ⟨xa_r0 (by simp [xm_may, *]), rfl, rfl⟩
  · have h5 := xa_b_n0.mp h5
    have hv1 := (xm_isH_t (by omega)).mp (xm_up_h h5)
    have hb1 : xc h < nh := xa_in_lt hv1
    refine xa_aload_n (pc := 8) dX8_mayOffer_8 rfl ?_
    refine xa_getA (pc := 9) 8 8 139 lfX8_35 dX8_mayOffer_9 xm_o rfl rfl rfl ?_
    refine xa_iload_n (pc := 12) dX8_mayOffer_12 rfl ?_
    refine xa_zaldN (pc := 13) (xc h) dX8_mayOffer_13 xm_139 rfl (xa_in_eq hv1) (by show _ < 12; omega) (by decide) ?_
    refine xa_if_ne (pc := 14) 72 dX8_mayOffer_14 (by decide) (fun h14 => ?_) (fun h14 => ?_)
    · refine xa_iconst (pc := 72) (v := 0) dX8_mayOffer_72 (by decide) ?_
      exact xa_zret dX8_mayOffer_73 rfl (by decide) ⟨xa_r0 (by simp [xm_may, *]), rfl, rfl⟩
    · refine xa_aload_n (pc := 17) dX8_mayOffer_17 rfl ?_
      refine xa_iload_n (pc := 18) dX8_mayOffer_18 rfl ?_
      refine xa_callV (pc := 19) xm_o rfl rfl lcX8_176 dX8_mayOffer_19 (cm_many E _ hW _) rfl rfl (by decide) (Nat.le_of_ble_eq_true rfl) (by decide) ?_
      rintro _ _ _ ⟨rfl, rfl, rfl⟩
      refine xa_iconst (pc := 22) (v := 4) dX8_mayOffer_22 (by decide) ?_
      refine xa_icmpN_ge (pc := 23) 72 (xa_ct (xm_mp S h) ns) 4 dX8_mayOffer_23 (by decide) rfl rfl (by omega) (by omega) (fun h23 => ?_) (fun h23 => ?_)
      · have g23 : ¬ ((xa_ct (xm_mp S h) ns) < 4) := by omega
        refine xa_iconst (pc := 72) (v := 0) dX8_mayOffer_72 (by decide) ?_
        exact xa_zret dX8_mayOffer_73 rfl (by decide) ⟨xa_r0 (by simp [xm_may, *]), rfl, rfl⟩
      · refine xa_iload_n (pc := 26) dX8_mayOffer_26 rfl ?_
        refine xa_iconst (pc := 27) (v := 0) dX8_mayOffer_27 (by decide) ?_
        refine xa_bipush (pc := 28) (v := 15) dX8_mayOffer_28 (by decide) ?_
        refine xa_callS (pc := 30) lcX8_159 dX8_mayOffer_30 (cm_in E _ _ _ _ _ _) rfl rfl (by decide) (Nat.le_of_ble_eq_true rfl) (by decide) ?_
        rintro _ _ _ ⟨rfl, rfl, rfl⟩
        refine xa_if_eq (pc := 33) 72 dX8_mayOffer_33 (by decide) (fun h33 => ?_) (fun h33 => ?_)
        · have h33 := xa_b_0.mp h33
          refine xa_iconst (pc := 72) (v := 0) dX8_mayOffer_72 (by decide) ?_
          exact xa_zret dX8_mayOffer_73 rfl (by decide) ⟨xa_r0 (by simp [xm_may, *]), rfl, rfl⟩
        · have h33 := xa_b_n0.mp h33
          refine xa_iload_n (pc := 36) dX8_mayOffer_36 rfl ?_
          refine xa_iconst (pc := 37) (v := 0) dX8_mayOffer_37 (by decide) ?_
          refine xa_sipush (pc := 38) (v := 255) dX8_mayOffer_38 (by decide) ?_
          refine xa_callS (pc := 41) lcX8_159 dX8_mayOffer_41 (cm_in E _ _ _ _ _ _) rfl rfl (by decide) (Nat.le_of_ble_eq_true rfl) (by decide) ?_
          rintro _ _ _ ⟨rfl, rfl, rfl⟩
          refine xa_if_eq (pc := 44) 72 dX8_mayOffer_44 (by decide) (fun h44 => ?_) (fun h44 => ?_)
          · have h44 := xa_b_0.mp h44
            refine xa_iconst (pc := 72) (v := 0) dX8_mayOffer_72 (by decide) ?_
            exact xa_zret dX8_mayOffer_73 rfl (by decide) ⟨xa_r0 (by simp [xm_may, *]), rfl, rfl⟩
          · have h44 := xa_b_n0.mp h44
            refine xa_iload (pc := 47) dX8_mayOffer_47 rfl ?_
            refine xa_iconst (pc := 49) (v := 4) dX8_mayOffer_49 (by decide) ?_
            refine xa_sipush (pc := 50) (v := 200) dX8_mayOffer_50 (by decide) ?_
            refine xa_callS (pc := 53) lcX8_159 dX8_mayOffer_53 (cm_in E _ _ _ _ _ _) rfl rfl (by decide) (Nat.le_of_ble_eq_true rfl) (by decide) ?_
            rintro _ _ _ ⟨rfl, rfl, rfl⟩
            refine xa_if_eq (pc := 56) 72 dX8_mayOffer_56 (by decide) (fun h56 => ?_) (fun h56 => ?_)
            · have h56 := xa_b_0.mp h56
              refine xa_iconst (pc := 72) (v := 0) dX8_mayOffer_72 (by decide) ?_
              exact xa_zret dX8_mayOffer_73 rfl (by decide) ⟨xa_r0 (by simp [xm_may, *]), rfl, rfl⟩
            · have h56 := xa_b_n0.mp h56
              refine xa_aload_n (pc := 59) dX8_mayOffer_59 rfl ?_
              refine xa_getI (pc := 60) 8 26 lfX8_170 dX8_mayOffer_60 xm_o rfl rfl ?_
              refine xa_bipush (pc := 63) (v := 32) dX8_mayOffer_63 (by decide) ?_
              refine xa_icmpN_ge (pc := 65) 72 ns 32 dX8_mayOffer_65 (by decide) w4 rfl (by omega) (by omega) (fun h65 => ?_) (fun h65 => ?_)
              · have g65 : ¬ (ns < 32) := by omega
                refine xa_iconst (pc := 72) (v := 0) dX8_mayOffer_72 (by decide) ?_
                exact xa_zret dX8_mayOffer_73 rfl (by decide) ⟨xa_r0 (by simp [xm_may, *]), rfl, rfl⟩
              · refine xa_iconst (pc := 68) (v := 1) dX8_mayOffer_68 (by decide) ?_
                refine xa_goto (pc := 69) (tgt := 73) dX8_mayOffer_69 (by decide) ?_
                exact xa_zret dX8_mayOffer_73 rfl (by decide) ⟨xa_r1 (by simp [xm_may, *]), rfl, rfl⟩
def xm_comes (ns : Nat) (S : xa_AH) (h k n m l : Int32) : xa_AH := (xa_up (xa_up (xa_up (xa_up (xa_up (xa_up (xa_up (xa_up (xa_up S 146 ns h) 147 ns k) 148 ns n) 149 ns m) 150 ns l) 151 ns 1) 152 ns 3) 153 ns (-1)) 130 26 (S 130 26 + 1))
set_option maxHeartbeats 4000000 in
theorem cm_comes (E : xa_EV) (S : xa_AH) {nh ns : Nat} (hW : xm_wf nh ns S) (hlt : ns < 32) (h k n m l : Int32) : xa_Ct E mX8_comes [.ref 130, .int h, .int k, .int n, .int m, .int l] xm_L S xm_R (xa_pR (.int (nI ns)) (xm_comes ns S h k n m l) xm_R) := by
  refine xa_Ct.of [some (.ref 130), some (.int h), some (.int k), some (.int n), some (.int m), some (.int l), none] rfl (Nat.le_of_ble_eq_true rfl) (by simp [Value.category]) rfl ?_
  obtain ⟨w1, w2, w3, w4, w5⟩ := id hW
  refine xa_aload_n (pc := 0) dX8_comes_0 rfl ?_
  refine xa_getI (pc := 1) 8 26 lfX8_170 dX8_comes_1 xm_o rfl rfl ?_
  refine xa_istore (pc := 4) dX8_comes_4 (by decide) ?_
  refine xa_aload_n (pc := 6) dX8_comes_6 rfl ?_
  refine xa_getA (pc := 7) 8 15 146 lfX8_53 dX8_comes_7 xm_o rfl rfl rfl ?_
  refine xa_iload (pc := 10) dX8_comes_10 rfl ?_
  refine xa_iload_n (pc := 12) dX8_comes_12 rfl ?_
  refine xa_iastN (pc := 13) ns dX8_comes_13 xm_146 rfl w4 (by show _ < 32; omega) (by decide) ?_
  refine xa_aload_n (pc := 14) dX8_comes_14 rfl ?_
  refine xa_getA (pc := 15) 8 16 147 lfX8_56 dX8_comes_15 xm_o rfl rfl rfl ?_
  refine xa_iload (pc := 18) dX8_comes_18 rfl ?_
  refine xa_iload_n (pc := 20) dX8_comes_20 rfl ?_
  refine xa_iastN (pc := 21) ns dX8_comes_21 xm_147 rfl w4 (by show _ < 32; omega) (by decide) ?_
  refine xa_aload_n (pc := 22) dX8_comes_22 rfl ?_
  refine xa_getA (pc := 23) 8 17 148 lfX8_59 dX8_comes_23 xm_o rfl rfl rfl ?_
  refine xa_iload (pc := 26) dX8_comes_26 rfl ?_
  refine xa_iload_n (pc := 28) dX8_comes_28 rfl ?_
  refine xa_iastN (pc := 29) ns dX8_comes_29 xm_148 rfl w4 (by show _ < 32; omega) (by decide) ?_
  refine xa_aload_n (pc := 30) dX8_comes_30 rfl ?_
  refine xa_getA (pc := 31) 8 18 149 lfX8_62 dX8_comes_31 xm_o rfl rfl rfl ?_
  refine xa_iload (pc := 34) dX8_comes_34 rfl ?_
  refine xa_iload (pc := 36) dX8_comes_36 rfl ?_
  refine xa_iastN (pc := 38) ns dX8_comes_38 xm_149 rfl w4 (by show _ < 32; omega) (by decide) ?_
  refine xa_aload_n (pc := 39) dX8_comes_39 rfl ?_
  refine xa_getA (pc := 40) 8 19 150 lfX8_65 dX8_comes_40 xm_o rfl rfl rfl ?_
  refine xa_iload (pc := 43) dX8_comes_43 rfl ?_
  refine xa_iload (pc := 45) dX8_comes_45 rfl ?_
  refine xa_iastN (pc := 47) ns dX8_comes_47 xm_150 rfl w4 (by show _ < 32; omega) (by decide) ?_
  refine xa_aload_n (pc := 48) dX8_comes_48 rfl ?_
  refine xa_getA (pc := 49) 8 20 151 lfX8_68 dX8_comes_49 xm_o rfl rfl rfl ?_
  refine xa_iload (pc := 52) dX8_comes_52 rfl ?_
  refine xa_iconst (pc := 54) (v := 1) dX8_comes_54 (by decide) ?_
  refine xa_iastN (pc := 55) ns dX8_comes_55 xm_151 rfl w4 (by show _ < 32; omega) (by decide) ?_
  refine xa_aload_n (pc := 56) dX8_comes_56 rfl ?_
  refine xa_getA (pc := 57) 8 21 152 lfX8_71 dX8_comes_57 xm_o rfl rfl rfl ?_
  refine xa_iload (pc := 60) dX8_comes_60 rfl ?_
  refine xa_iconst (pc := 62) (v := 3) dX8_comes_62 (by decide) ?_
  refine xa_iastN (pc := 63) ns dX8_comes_63 xm_152 rfl w4 (by show _ < 32; omega) (by decide) ?_
  refine xa_aload_n (pc := 64) dX8_comes_64 rfl ?_
  refine xa_getA (pc := 65) 8 22 153 lfX8_74 dX8_comes_65 xm_o rfl rfl rfl ?_
  refine xa_iload (pc := 68) dX8_comes_68 rfl ?_
  refine xa_iconst (pc := 70) (v := (-1)) dX8_comes_70 (by decide) ?_
  refine xa_iastN (pc := 71) ns dX8_comes_71 xm_153 rfl w4 (by show _ < 32; omega) (by decide) ?_
  refine xa_aload_n (pc := 72) dX8_comes_72 rfl ?_
  refine xa_dup (pc := 73) dX8_comes_73 rfl ?_
  refine xa_getI (pc := 74) 8 26 lfX8_170 dX8_comes_74 xm_o rfl rfl ?_
  refine xa_iconst (pc := 77) (v := 1) dX8_comes_77 (by decide) ?_
  refine xa_iadd (pc := 78) dX8_comes_78 ?_
  refine xa_putI (pc := 79) 8 26 lpX8_170 dX8_comes_79 xm_o rfl rfl rfl rfl ?_
  refine xa_iload (pc := 82) dX8_comes_82 rfl ?_
  exact xa_zret dX8_comes_84 rfl rfl ⟨by rw [w4], rfl, rfl⟩
def xm_goes (S : xa_AH) (s : Nat) (b : Int32) : xa_AH := (xa_up (xa_up (xa_up (if S 151 s = 2 ∧ ¬ b = 0 then xa_up S 155 s 1 else S) 151 s 0) 152 s 0) 153 s (-1))
set_option maxHeartbeats 4000000 in
theorem cm_goes (E : xa_EV) (S : xa_AH) {s : Nat} {xs : Int32} (es : xs = nI s) (hs : s < 32) (b : Int32) : xa_Ct E mX8_goes [.ref 130, .int xs, .int b] xm_L S xm_R (xa_pV (xm_goes S s b) xm_R) := by
  subst es
  refine xa_Ct.of [some (.ref 130), some (.int (nI s)), some (.int b)] rfl (Nat.le_of_ble_eq_true rfl) (by simp [Value.category]) rfl ?_
  refine xa_aload_n (pc := 0) dX8_goes_0 rfl ?_
  refine xa_getA (pc := 1) 8 20 151 lfX8_68 dX8_goes_1 xm_o rfl rfl rfl ?_
  refine xa_iload_n (pc := 4) dX8_goes_4 rfl ?_
  refine xa_ialdN (pc := 5) s dX8_goes_5 xm_151 rfl rfl (by show _ < 32; omega) (by decide) ?_
  refine xa_iconst (pc := 6) (v := 2) dX8_goes_6 (by decide) ?_
  refine xa_icmp_ne (pc := 7) 21 dX8_goes_7 (by decide) (fun h7 => ?_) (fun h7 => ?_)
  · refine xa_aload_n (pc := 21) dX8_goes_21 rfl ?_
    refine xa_getA (pc := 22) 8 20 151 lfX8_68 dX8_goes_22 xm_o rfl rfl rfl ?_
    refine xa_iload_n (pc := 25) dX8_goes_25 rfl ?_
    refine xa_iconst (pc := 26) (v := 0) dX8_goes_26 (by decide) ?_
    refine xa_iastN (pc := 27) s dX8_goes_27 xm_151 rfl rfl (by show _ < 32; omega) (by decide) ?_
    refine xa_aload_n (pc := 28) dX8_goes_28 rfl ?_
    refine xa_getA (pc := 29) 8 21 152 lfX8_71 dX8_goes_29 xm_o rfl rfl rfl ?_
    refine xa_iload_n (pc := 32) dX8_goes_32 rfl ?_
    refine xa_iconst (pc := 33) (v := 0) dX8_goes_33 (by decide) ?_
    refine xa_iastN (pc := 34) s dX8_goes_34 xm_152 rfl rfl (by show _ < 32; omega) (by decide) ?_
    refine xa_aload_n (pc := 35) dX8_goes_35 rfl ?_
    refine xa_getA (pc := 36) 8 22 153 lfX8_74 dX8_goes_36 xm_o rfl rfl rfl ?_
    refine xa_iload_n (pc := 39) dX8_goes_39 rfl ?_
    refine xa_iconst (pc := 40) (v := (-1)) dX8_goes_40 (by decide) ?_
    refine xa_iastN (pc := 41) s dX8_goes_41 xm_153 rfl rfl (by show _ < 32; omega) (by decide) ?_
    exact xa_vret dX8_goes_42 rfl ⟨rfl, by simp [xm_goes, *], rfl⟩
  · refine xa_iload_n (pc := 10) dX8_goes_10 rfl ?_
    refine xa_if_eq (pc := 11) 21 dX8_goes_11 (by decide) (fun h11 => ?_) (fun h11 => ?_)
    · refine xa_aload_n (pc := 21) dX8_goes_21 rfl ?_
      refine xa_getA (pc := 22) 8 20 151 lfX8_68 dX8_goes_22 xm_o rfl rfl rfl ?_
      refine xa_iload_n (pc := 25) dX8_goes_25 rfl ?_
      refine xa_iconst (pc := 26) (v := 0) dX8_goes_26 (by decide) ?_
      refine xa_iastN (pc := 27) s dX8_goes_27 xm_151 rfl rfl (by show _ < 32; omega) (by decide) ?_
      refine xa_aload_n (pc := 28) dX8_goes_28 rfl ?_
      refine xa_getA (pc := 29) 8 21 152 lfX8_71 dX8_goes_29 xm_o rfl rfl rfl ?_
      refine xa_iload_n (pc := 32) dX8_goes_32 rfl ?_
      refine xa_iconst (pc := 33) (v := 0) dX8_goes_33 (by decide) ?_
      refine xa_iastN (pc := 34) s dX8_goes_34 xm_152 rfl rfl (by show _ < 32; omega) (by decide) ?_
      refine xa_aload_n (pc := 35) dX8_goes_35 rfl ?_
      refine xa_getA (pc := 36) 8 22 153 lfX8_74 dX8_goes_36 xm_o rfl rfl rfl ?_
      refine xa_iload_n (pc := 39) dX8_goes_39 rfl ?_
      refine xa_iconst (pc := 40) (v := (-1)) dX8_goes_40 (by decide) ?_
      refine xa_iastN (pc := 41) s dX8_goes_41 xm_153 rfl rfl (by show _ < 32; omega) (by decide) ?_
      exact xa_vret dX8_goes_42 rfl ⟨rfl, by simp [xm_goes, *], rfl⟩
    · refine xa_aload_n (pc := 14) dX8_goes_14 rfl ?_
      refine xa_getA (pc := 15) 8 24 155 lfX8_80 dX8_goes_15 xm_o rfl rfl rfl ?_
      refine xa_iload_n (pc := 18) dX8_goes_18 rfl ?_
      refine xa_iconst (pc := 19) (v := 1) dX8_goes_19 (by decide) ?_
      refine xa_zastN (pc := 20) s dX8_goes_20 xm_155 rfl rfl (by show _ < 32; omega) (by decide) rfl ?_
      refine xa_aload_n (pc := 21) dX8_goes_21 rfl ?_
      refine xa_getA (pc := 22) 8 20 151 lfX8_68 dX8_goes_22 xm_o rfl rfl rfl ?_
      refine xa_iload_n (pc := 25) dX8_goes_25 rfl ?_
      refine xa_iconst (pc := 26) (v := 0) dX8_goes_26 (by decide) ?_
      refine xa_iastN (pc := 27) s dX8_goes_27 xm_151 rfl rfl (by show _ < 32; omega) (by decide) ?_
      refine xa_aload_n (pc := 28) dX8_goes_28 rfl ?_
      refine xa_getA (pc := 29) 8 21 152 lfX8_71 dX8_goes_29 xm_o rfl rfl rfl ?_
      refine xa_iload_n (pc := 32) dX8_goes_32 rfl ?_
      refine xa_iconst (pc := 33) (v := 0) dX8_goes_33 (by decide) ?_
      refine xa_iastN (pc := 34) s dX8_goes_34 xm_152 rfl rfl (by show _ < 32; omega) (by decide) ?_
      refine xa_aload_n (pc := 35) dX8_goes_35 rfl ?_
      refine xa_getA (pc := 36) 8 22 153 lfX8_74 dX8_goes_36 xm_o rfl rfl rfl ?_
      refine xa_iload_n (pc := 39) dX8_goes_39 rfl ?_
      refine xa_iconst (pc := 40) (v := (-1)) dX8_goes_40 (by decide) ?_
      refine xa_iastN (pc := 41) s dX8_goes_41 xm_153 rfl rfl (by show _ < 32; omega) (by decide) ?_
      exact xa_vret dX8_goes_42 rfl ⟨rfl, by simp [xm_goes, *], rfl⟩
def xm_open (nh ns : Nat) (S : xa_AH) (s : Int32) : Bool := xm_isH ns s && (decide (S 151 (xc s) ≠ 0) && xm_up nh S (S 146 (xc s)))
set_option maxHeartbeats 4000000 in
theorem cm_isOpen (E : xa_EV) (S : xa_AH) {nh ns : Nat} (hW : xm_wf nh ns S) (s : Int32) : xa_Ct E mX8_isOpen [.ref 130, .int s] xm_L S xm_R (xa_pR (.int (xa_b (xm_open nh ns S s))) S xm_R) := by
  refine xa_Ct.of [some (.ref 130), some (.int s)] rfl (Nat.le_of_ble_eq_true rfl) (by simp [Value.category]) rfl ?_
  obtain ⟨w1, w2, w3, w4, w5⟩ := id hW
  refine xa_aload_n (pc := 0) dX8_isOpen_0 rfl ?_
  refine xa_iload_n (pc := 1) dX8_isOpen_1 rfl ?_
  refine xa_callV (pc := 2) xm_o rfl rfl lcX8_194 dX8_isOpen_2 (cm_isService E _ hW _) rfl rfl (by decide) (Nat.le_of_ble_eq_true rfl) (by decide) ?_
  rintro _ _ _ ⟨rfl, rfl, rfl⟩
  refine xa_if_eq (pc := 5) 34 dX8_isOpen_5 (by decide) (fun h5 => ?_) (fun h5 => ?_)
  · have h5 := xa_b_0.mp h5
    refine xa_iconst (pc := 34) (v := 0) dX8_isOpen_34 (by decide) ?_
    exact xa_zret dX8_isOpen_35 rfl (by decide) ⟨xa_r0 (by simp [xm_open, *]), rfl, rfl⟩
  · have h5 := xa_b_n0.mp h5
    have hv1 := (xm_isH_t (by omega)).mp h5
    have hb1 : xc s < ns := xa_in_lt hv1
    refine xa_aload_n (pc := 8) dX8_isOpen_8 rfl ?_
    refine xa_getA (pc := 9) 8 20 151 lfX8_68 dX8_isOpen_9 xm_o rfl rfl rfl ?_
    refine xa_iload_n (pc := 12) dX8_isOpen_12 rfl ?_
    refine xa_ialdN (pc := 13) (xc s) dX8_isOpen_13 xm_151 rfl (xa_in_eq hv1) (by show _ < 32; omega) (by decide) ?_
    refine xa_if_eq (pc := 14) 34 dX8_isOpen_14 (by decide) (fun h14 => ?_) (fun h14 => ?_)
    · refine xa_iconst (pc := 34) (v := 0) dX8_isOpen_34 (by decide) ?_
      exact xa_zret dX8_isOpen_35 rfl (by decide) ⟨xa_r0 (by simp [xm_open, *]), rfl, rfl⟩
    · refine xa_aload_n (pc := 17) dX8_isOpen_17 rfl ?_
      refine xa_aload_n (pc := 18) dX8_isOpen_18 rfl ?_
      refine xa_getA (pc := 19) 8 15 146 lfX8_53 dX8_isOpen_19 xm_o rfl rfl rfl ?_
      refine xa_iload_n (pc := 22) dX8_isOpen_22 rfl ?_
      refine xa_ialdN (pc := 23) (xc s) dX8_isOpen_23 xm_146 rfl (xa_in_eq hv1) (by show _ < 32; omega) (by decide) ?_
      refine xa_callV (pc := 24) xm_o rfl rfl lcX8_173 dX8_isOpen_24 (cm_isUp E _ hW _) rfl rfl (by decide) (Nat.le_of_ble_eq_true rfl) (by decide) ?_
      rintro _ _ _ ⟨rfl, rfl, rfl⟩
      refine xa_if_eq (pc := 27) 34 dX8_isOpen_27 (by decide) (fun h27 => ?_) (fun h27 => ?_)
      · have h27 := xa_b_0.mp h27
        refine xa_iconst (pc := 34) (v := 0) dX8_isOpen_34 (by decide) ?_
        exact xa_zret dX8_isOpen_35 rfl (by decide) ⟨xa_r0 (by simp [xm_open, *]), rfl, rfl⟩
      · have h27 := xa_b_n0.mp h27
        refine xa_iconst (pc := 30) (v := 1) dX8_isOpen_30 (by decide) ?_
        refine xa_goto (pc := 31) (tgt := 35) dX8_isOpen_31 (by decide) ?_
        exact xa_zret dX8_isOpen_35 rfl (by decide) ⟨xa_r1 (by simp [xm_open, *]), rfl, rfl⟩
def xm_lot (h t : Int32) : Int32 := (5 * h + 3 * t) - (5 * h + 3 * t) / 4 * 4
set_option maxHeartbeats 4000000 in
theorem cm_lot (E : xa_EV) (L : List Nat) (S : xa_AH) (R : xa_AR) (h t : Int32) : xa_Ct E mX8_lot [.int h, .int t] L S R (xa_pR (.int (xm_lot h t)) S R) := by
  refine xa_Ct.of [some (.int h), some (.int t)] rfl (Nat.le_of_ble_eq_true rfl) (by simp [Value.category]) rfl ?_
  refine xa_iconst (pc := 0) (v := 5) dX8_lot_0 (by decide) ?_
  refine xa_iload_n (pc := 1) dX8_lot_1 rfl ?_
  refine xa_imul (pc := 2) dX8_lot_2 ?_
  refine xa_iconst (pc := 3) (v := 3) dX8_lot_3 (by decide) ?_
  refine xa_iload_n (pc := 4) dX8_lot_4 rfl ?_
  refine xa_imul (pc := 5) dX8_lot_5 ?_
  refine xa_iadd (pc := 6) dX8_lot_6 ?_
  refine xa_iconst (pc := 7) (v := 4) dX8_lot_7 (by decide) ?_
  refine xa_irem (pc := 8) dX8_lot_8 (by decide) ?_
  exact xa_zret dX8_lot_9 rfl rfl ⟨rfl, rfl, rfl⟩
def xm_wakes (S : xa_AH) (h : Nat) : xa_AH := (xa_up (xa_up S 136 h 2) 141 h (-1))
set_option maxHeartbeats 4000000 in
theorem cm_wakes (E : xa_EV) (S : xa_AH) {h : Nat} {xh : Int32} (eh : xh = nI h) (hh : h < 12) : xa_Ct E mX8_wakes [.ref 130, .int xh] xm_L S xm_R (xa_pV (xm_wakes S h) xm_R) := by
  subst eh
  refine xa_Ct.of [some (.ref 130), some (.int (nI h))] rfl (Nat.le_of_ble_eq_true rfl) (by simp [Value.category]) rfl ?_
  refine xa_aload_n (pc := 0) dX8_wakes_0 rfl ?_
  refine xa_getA (pc := 1) 8 5 136 lfX8_25 dX8_wakes_1 xm_o rfl rfl rfl ?_
  refine xa_iload_n (pc := 4) dX8_wakes_4 rfl ?_
  refine xa_iconst (pc := 5) (v := 2) dX8_wakes_5 (by decide) ?_
  refine xa_iastN (pc := 6) h dX8_wakes_6 xm_136 rfl rfl (by show _ < 12; omega) (by decide) ?_
  refine xa_aload_n (pc := 7) dX8_wakes_7 rfl ?_
  refine xa_getA (pc := 8) 8 10 141 lfX8_41 dX8_wakes_8 xm_o rfl rfl rfl ?_
  refine xa_iload_n (pc := 11) dX8_wakes_11 rfl ?_
  refine xa_iconst (pc := 12) (v := (-1)) dX8_wakes_12 (by decide) ?_
  refine xa_iastN (pc := 13) h dX8_wakes_13 xm_141 rfl rfl (by show _ < 12; omega) (by decide) ?_
  exact xa_vret dX8_wakes_14 rfl ⟨rfl, rfl, rfl⟩
def xm_emp1 (h s : Nat) (S : xa_AH) : xa_AH := (xa_up (xa_up S 158 (32 * h + s) 0) 163 (32 * h + s) (-1))
def xm_emp (h : Nat) (S : xa_AH) : xa_AH := xa_lp (xm_emp1 h) 32 S
set_option maxHeartbeats 4000000 in
theorem lm_empties (E : xa_EV) (S : xa_AH) {h : Nat} (hh : h < 12)  : ∀ s, s ≤ 32 → ∀ T, T = xa_lp (xm_emp1 h) s S → xa_W E mX8_empties (xa_Z E mX8_empties xm_L (xa_pV (xm_emp h S) xm_R)) 0 0 2 [some (.ref 130), some (.int (nI h)), some (.int (nI s))] [] xm_L T xm_R := by
  refine xa_dn (fun s hs ih => ?_)
  intro T eT
  refine xa_iload_n (pc := 2) dX8_empties_2 rfl ?_
  refine xa_bipush (pc := 3) (v := 32) dX8_empties_3 (by decide) ?_
  refine xa_icmpN_ge (pc := 5) 38 s 32 dX8_empties_5 (by decide) rfl rfl (by omega) (by omega) (fun h5 => ?_) (fun h5 => ?_)
  · have g5 : ¬ (s < 32) := by omega
    have es : s = 32 := by omega
    subst es; subst eT
    exact xa_vret dX8_empties_38 rfl ⟨rfl, rfl, rfl⟩
  · refine xa_aload_n (pc := 8) dX8_empties_8 rfl ?_
    refine xa_getA (pc := 9) 8 27 158 lfX8_86 dX8_empties_9 xm_o rfl rfl rfl ?_
    refine xa_bipush (pc := 12) (v := 32) dX8_empties_12 (by decide) ?_
    refine xa_iload_n (pc := 14) dX8_empties_14 rfl ?_
    refine xa_imul (pc := 15) dX8_empties_15 ?_
    refine xa_iload_n (pc := 16) dX8_empties_16 rfl ?_
    refine xa_iadd (pc := 17) dX8_empties_17 ?_
    refine xa_iconst (pc := 18) (v := 0) dX8_empties_18 (by decide) ?_
    refine xa_zastN (pc := 19) ((32 * h) + s) dX8_empties_19 xm_158 rfl (xa_pa (xa_pm rfl rfl) rfl) (by show _ < 384; omega) (by decide) rfl ?_
    refine xa_aload_n (pc := 20) dX8_empties_20 rfl ?_
    refine xa_getA (pc := 21) 8 32 163 lfX8_101 dX8_empties_21 xm_o rfl rfl rfl ?_
    refine xa_bipush (pc := 24) (v := 32) dX8_empties_24 (by decide) ?_
    refine xa_iload_n (pc := 26) dX8_empties_26 rfl ?_
    refine xa_imul (pc := 27) dX8_empties_27 ?_
    refine xa_iload_n (pc := 28) dX8_empties_28 rfl ?_
    refine xa_iadd (pc := 29) dX8_empties_29 ?_
    refine xa_iconst (pc := 30) (v := (-1)) dX8_empties_30 (by decide) ?_
    refine xa_iastN (pc := 31) ((32 * h) + s) dX8_empties_31 xm_163 rfl (xa_pa (xa_pm rfl rfl) rfl) (by show _ < 384; omega) (by decide) ?_
    refine xa_iinc (pc := 32) (v := nI (s + 1)) dX8_empties_32 rfl (by decide) (nI_1 _) ?_
    refine xa_goto (pc := 35) (tgt := 2) dX8_empties_35 (by decide) ?_
    subst eT; exact xa_fgk (ih (by omega) _ rfl) (And.intro rfl (And.intro rfl (And.intro rfl trivial)))
set_option maxHeartbeats 4000000 in
theorem cm_empties (E : xa_EV) (S : xa_AH) {h : Nat} {xh : Int32} (eh : xh = nI h) (hh : h < 12) : xa_Ct E mX8_empties [.ref 130, .int xh] xm_L S xm_R (xa_pV (xm_emp h S) xm_R) := by
  subst eh
  refine xa_Ct.of [some (.ref 130), some (.int (nI h)), none] rfl (Nat.le_of_ble_eq_true rfl) (by simp [Value.category]) rfl ?_
  refine xa_iconst (pc := 0) (v := 0) dX8_empties_0 (by decide) ?_
  refine xa_istore_n (pc := 1) dX8_empties_1 (by decide) ?_
  exact lm_empties E S hh 0 (Nat.zero_le _) _ rfl
def xm_clr1 (r k : Nat) (S : xa_AH) : xa_AH := (xa_up S 179 (16 * r + k) 0)
def xm_clr2 (r s : Nat) (S : xa_AH) : xa_AH := (xa_up (xa_up (xa_up S 183 (32 * r + s) 0) 185 (32 * r + s) 0) 187 (32 * r + s) 0)
def xm_clr (r : Nat) (S : xa_AH) : xa_AH := xa_lp (xm_clr2 r) 32 (xa_lp (xm_clr1 r) 16 S)
set_option maxHeartbeats 4000000 in
theorem lm_clears2 (E : xa_EV) (S : xa_AH) {r : Nat} (hr : r < 48)  : ∀ s, s ≤ 32 → ∀ T, T = xa_lp (xm_clr2 r) s (xa_lp (xm_clr1 r) 16 S) → xa_W E mX8_clears (xa_Z E mX8_clears xm_L (xa_pV (xm_clr r S) xm_R)) 0 0 28 [some (.ref 130), some (.int (nI r)), some (.int (nI s))] [] xm_L T xm_R := by
  refine xa_dn (fun s hs ih => ?_)
  intro T eT
  refine xa_iload_n (pc := 28) dX8_clears_28 rfl ?_
  refine xa_bipush (pc := 29) (v := 32) dX8_clears_29 (by decide) ?_
  refine xa_icmpN_ge (pc := 31) 76 s 32 dX8_clears_31 (by decide) rfl rfl (by omega) (by omega) (fun h31 => ?_) (fun h31 => ?_)
  · have g31 : ¬ (s < 32) := by omega
    have es : s = 32 := by omega
    subst es; subst eT
    exact xa_vret dX8_clears_76 rfl ⟨rfl, rfl, rfl⟩
  · refine xa_aload_n (pc := 34) dX8_clears_34 rfl ?_
    refine xa_getA (pc := 35) 8 52 183 lfX8_131 dX8_clears_35 xm_o rfl rfl rfl ?_
    refine xa_bipush (pc := 38) (v := 32) dX8_clears_38 (by decide) ?_
    refine xa_iload_n (pc := 40) dX8_clears_40 rfl ?_
    refine xa_imul (pc := 41) dX8_clears_41 ?_
    refine xa_iload_n (pc := 42) dX8_clears_42 rfl ?_
    refine xa_iadd (pc := 43) dX8_clears_43 ?_
    refine xa_iconst (pc := 44) (v := 0) dX8_clears_44 (by decide) ?_
    refine xa_iastN (pc := 45) ((32 * r) + s) dX8_clears_45 xm_183 rfl (xa_pa (xa_pm rfl rfl) rfl) (by show _ < 1536; omega) (by decide) ?_
    refine xa_aload_n (pc := 46) dX8_clears_46 rfl ?_
    refine xa_getA (pc := 47) 8 54 185 lfX8_137 dX8_clears_47 xm_o rfl rfl rfl ?_
    refine xa_bipush (pc := 50) (v := 32) dX8_clears_50 (by decide) ?_
    refine xa_iload_n (pc := 52) dX8_clears_52 rfl ?_
    refine xa_imul (pc := 53) dX8_clears_53 ?_
    refine xa_iload_n (pc := 54) dX8_clears_54 rfl ?_
    refine xa_iadd (pc := 55) dX8_clears_55 ?_
    refine xa_iconst (pc := 56) (v := 0) dX8_clears_56 (by decide) ?_
    refine xa_zastN (pc := 57) ((32 * r) + s) dX8_clears_57 xm_185 rfl (xa_pa (xa_pm rfl rfl) rfl) (by show _ < 1536; omega) (by decide) rfl ?_
    refine xa_aload_n (pc := 58) dX8_clears_58 rfl ?_
    refine xa_getA (pc := 59) 8 56 187 lfX8_143 dX8_clears_59 xm_o rfl rfl rfl ?_
    refine xa_bipush (pc := 62) (v := 32) dX8_clears_62 (by decide) ?_
    refine xa_iload_n (pc := 64) dX8_clears_64 rfl ?_
    refine xa_imul (pc := 65) dX8_clears_65 ?_
    refine xa_iload_n (pc := 66) dX8_clears_66 rfl ?_
    refine xa_iadd (pc := 67) dX8_clears_67 ?_
    refine xa_iconst (pc := 68) (v := 0) dX8_clears_68 (by decide) ?_
    refine xa_iastN (pc := 69) ((32 * r) + s) dX8_clears_69 xm_187 rfl (xa_pa (xa_pm rfl rfl) rfl) (by show _ < 1536; omega) (by decide) ?_
    refine xa_iinc (pc := 70) (v := nI (s + 1)) dX8_clears_70 rfl (by decide) (nI_1 _) ?_
    refine xa_goto (pc := 73) (tgt := 28) dX8_clears_73 (by decide) ?_
    subst eT; exact xa_fgk (ih (by omega) _ rfl) (And.intro rfl (And.intro rfl (And.intro rfl trivial)))
set_option maxHeartbeats 4000000 in
theorem lm_clears1 (E : xa_EV) (S : xa_AH) {r : Nat} (hr : r < 48)  : ∀ s, s ≤ 16 → ∀ T, T = xa_lp (xm_clr1 r) s S → xa_W E mX8_clears (xa_Z E mX8_clears xm_L (xa_pV (xm_clr r S) xm_R)) 0 0 2 [some (.ref 130), some (.int (nI r)), some (.int (nI s))] [] xm_L T xm_R := by
  refine xa_dn (fun s hs ih => ?_)
  intro T eT
  refine xa_iload_n (pc := 2) dX8_clears_2 rfl ?_
  refine xa_bipush (pc := 3) (v := 16) dX8_clears_3 (by decide) ?_
  refine xa_icmpN_ge (pc := 5) 26 s 16 dX8_clears_5 (by decide) rfl rfl (by omega) (by omega) (fun h5 => ?_) (fun h5 => ?_)
  · have g5 : ¬ (s < 16) := by omega
    refine xa_iconst (pc := 26) (v := 0) dX8_clears_26 (by decide) ?_
    refine xa_istore_n (pc := 27) dX8_clears_27 (by decide) ?_
    have es : s = 16 := by omega
    subst es; subst eT
    exact lm_clears2 E S hr 0 (Nat.zero_le _) _ rfl
  · refine xa_aload_n (pc := 8) dX8_clears_8 rfl ?_
    refine xa_getA (pc := 9) 8 48 179 lfX8_119 dX8_clears_9 xm_o rfl rfl rfl ?_
    refine xa_bipush (pc := 12) (v := 16) dX8_clears_12 (by decide) ?_
    refine xa_iload_n (pc := 14) dX8_clears_14 rfl ?_
    refine xa_imul (pc := 15) dX8_clears_15 ?_
    refine xa_iload_n (pc := 16) dX8_clears_16 rfl ?_
    refine xa_iadd (pc := 17) dX8_clears_17 ?_
    refine xa_iconst (pc := 18) (v := 0) dX8_clears_18 (by decide) ?_
    refine xa_zastN (pc := 19) ((16 * r) + s) dX8_clears_19 xm_179 rfl (xa_pa (xa_pm rfl rfl) rfl) (by show _ < 768; omega) (by decide) rfl ?_
    refine xa_iinc (pc := 20) (v := nI (s + 1)) dX8_clears_20 rfl (by decide) (nI_1 _) ?_
    refine xa_goto (pc := 23) (tgt := 2) dX8_clears_23 (by decide) ?_
    subst eT; exact xa_fgk (ih (by omega) _ rfl) (And.intro rfl (And.intro rfl (And.intro rfl trivial)))
set_option maxHeartbeats 4000000 in
theorem cm_clears (E : xa_EV) (S : xa_AH) {r : Nat} {xr : Int32} (er : xr = nI r) (hr : r < 48) : xa_Ct E mX8_clears [.ref 130, .int xr] xm_L S xm_R (xa_pV (xm_clr r S) xm_R) := by
  subst er
  refine xa_Ct.of [some (.ref 130), some (.int (nI r)), none] rfl (Nat.le_of_ble_eq_true rfl) (by simp [Value.category]) rfl ?_
  refine xa_iconst (pc := 0) (v := 0) dX8_clears_0 (by decide) ?_
  refine xa_istore_n (pc := 1) dX8_clears_1 (by decide) ?_
  exact lm_clears1 E S hr 0 (Nat.zero_le _) _ rfl
