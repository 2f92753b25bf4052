def ah_p (S : xa_AH) (h : Nat) (kd m : Int32) (s o : Nat) : Bool := cq_fd S h kd m o && decide (S 159 (32 * h + o) < S 159 (32 * h + s))
theorem ah_e {ns h s : Nat} {S : xa_AH} {kd m : Int32} : xa_ct (ah_p S h kd m s) ns = xm_ahd ns S h kd m s := rfl
set_option maxHeartbeats 4000000 in
theorem lx_fi53 (E : xa_EV) {L : List Nat} {T : xa_AH} {R : xa_AR} {nh ns k : Nat} {pw : Nat → Nat} {S : xa_AH} (hX : RX nh ns k pw L T R S) (Z : xa_ZC) (xh kd m k1 : Int32) {h s : Nat} (hh : h < nh) (hs : s < ns) (K : xa_W E mX7_find Z 0 0 112 [some (.ref (ci 0 129)), some (.int xh), some (.int kd), some (.int m), some (.int k1), some (.ref (ci h 0)), some (.int (nI s)), some (.int (nI (xm_ahd ns S h kd m s))), none] [] L T R) : ∀ x, x ≤ ns → xa_W E mX7_find Z 0 0 53 [some (.ref (ci 0 129)), some (.int xh), some (.int kd), some (.int m), some (.int k1), some (.ref (ci h 0)), some (.int (nI s)), some (.int (nI (xa_ct (ah_p S h kd m s) x))), some (.int (nI x))] [] L T R := by
  refine xa_dn (fun x hxl ih => ?_)
  have n12 := hX.n12
  have n32 := hX.n32
  refine xa_iload (pc := 53) dX7_find_53 rfl ?_
  refine xa_aload_n (pc := 55) dX7_find_55 rfl ?_
  refine xa_getIv (pc := 56) 7 3 _ lfX7_103 dX7_find_56 hX.c_m129 (kd_129 _) rfl hX.g_ns ?_
  refine xa_icmpN_ge (pc := 59) 112 x ns dX7_find_59 (by decide) rfl rfl (by omega) (by omega) (fun h59 => ?_) (fun h59 => ?_)
  · have g59 : ¬ (x < ns) := by omega
    have ex9 : x = ns := by omega
    subst ex9
    exact xa_fgk (K) (And.intro rfl (And.intro rfl (And.intro rfl (And.intro rfl (And.intro rfl (And.intro rfl (And.intro rfl (And.intro rfl trivial))))))))
  · refine xa_aload_n (pc := 62) dX7_find_62 rfl ?_
    refine xa_aload (pc := 63) dX7_find_63 rfl ?_
    refine xa_getA (pc := 65) 3 4 (ci h 1) lfX7_134 dX7_find_65 ((hX.hS hh).1 0 (by decide)) (kd_0 _) rfl ((hX.hS hh).2 (0, 4, 1) (by decide)) ?_
    refine xa_iload (pc := 68) dX7_find_68 rfl ?_
    refine xa_iload_n (pc := 70) dX7_find_70 rfl ?_
    refine xa_iload_n (pc := 71) dX7_find_71 rfl ?_
    refine xa_callV (pc := 72) hX.c_m129 (kd_129 _) rfl lcX7_180 dX7_find_72 (cx_isFound E hX hh (s := x) rfl (by omega) _ _) rfl rfl (by decide) (Nat.le_of_ble_eq_true rfl) (by decide) ?_
    rintro _ _ _ ⟨rfl, rfl, rfl⟩
    refine xa_if_eq (pc := 75) 106 dX7_find_75 (by decide) (fun h75 => ?_) (fun h75 => ?_)
    · have h75 := xa_b_0.mp h75
      refine xa_iinc (pc := 106) (v := nI (x + 1)) dX7_find_106 rfl (by decide) (nI_1 _) ?_
      refine xa_goto (pc := 109) (tgt := 53) dX7_find_109 (by decide) ?_
      exact xa_fgk (ih (by omega)) (And.intro rfl (And.intro rfl (And.intro rfl (And.intro rfl (And.intro rfl (And.intro rfl (And.intro rfl (And.intro (congrArg (fun z => some (Value.int z)) (by rw [xa_ct, if_neg (by simp [ah_p, h75])] <;> rfl)) (And.intro rfl trivial)))))))))
    · have h75 := xa_b_n0.mp h75
      refine xa_aload (pc := 78) dX7_find_78 rfl ?_
      refine xa_getA (pc := 80) 3 4 (ci h 1) lfX7_134 dX7_find_80 ((hX.hS hh).1 0 (by decide)) (kd_0 _) rfl ((hX.hS hh).2 (0, 4, 1) (by decide)) ?_
      refine xa_getA (pc := 83) 6 0 (ci h 2) lfX7_184 dX7_find_83 ((hX.hS hh).1 1 (by decide)) (kd_1 _) rfl ((hX.hS hh).2 (1, 0, 2) (by decide)) ?_
      refine xa_iload (pc := 86) dX7_find_86 rfl ?_
      refine xa_ialdC (pc := 88) x _ dX7_find_88 ((hX.hS hh).1 2 (by decide)) (kd_2 _) (ln_2 _) rfl (by omega) (by decide) (hX.r_name hh (by omega)) ?_
      refine xa_aload (pc := 89) dX7_find_89 rfl ?_
      refine xa_getA (pc := 91) 3 4 (ci h 1) lfX7_134 dX7_find_91 ((hX.hS hh).1 0 (by decide)) (kd_0 _) rfl ((hX.hS hh).2 (0, 4, 1) (by decide)) ?_
      refine xa_getA (pc := 94) 6 0 (ci h 2) lfX7_184 dX7_find_94 ((hX.hS hh).1 1 (by decide)) (kd_1 _) rfl ((hX.hS hh).2 (1, 0, 2) (by decide)) ?_
      refine xa_iload (pc := 97) dX7_find_97 rfl ?_
      refine xa_ialdC (pc := 99) s _ dX7_find_99 ((hX.hS hh).1 2 (by decide)) (kd_2 _) (ln_2 _) rfl (by omega) (by decide) (hX.r_name hh (by omega)) ?_
      refine xa_icmp_ge (pc := 100) 106 dX7_find_100 (by decide) (fun h100 => ?_) (fun h100 => ?_)
      · refine xa_iinc (pc := 106) (v := nI (x + 1)) dX7_find_106 rfl (by decide) (nI_1 _) ?_
        refine xa_goto (pc := 109) (tgt := 53) dX7_find_109 (by decide) ?_
        exact xa_fgk (ih (by omega)) (And.intro rfl (And.intro rfl (And.intro rfl (And.intro rfl (And.intro rfl (And.intro rfl (And.intro rfl (And.intro (congrArg (fun z => some (Value.int z)) (by rw [xa_ct, if_neg (by simp [ah_p, h75, Int32.not_lt.mpr h100])] <;> rfl)) (And.intro rfl trivial)))))))))
      · refine xa_iinc (pc := 103) (v := nI ((xa_ct (ah_p S h kd m s) x) + 1)) dX7_find_103 rfl (by decide) (nI_1 _) ?_
        refine xa_iinc (pc := 106) (v := nI (x + 1)) dX7_find_106 rfl (by decide) (nI_1 _) ?_
        refine xa_goto (pc := 109) (tgt := 53) dX7_find_109 (by decide) ?_
        exact xa_fgk (ih (by omega)) (And.intro rfl (And.intro rfl (And.intro rfl (And.intro rfl (And.intro rfl (And.intro rfl (And.intro rfl (And.intro (congrArg (fun z => some (Value.int z)) (by rw [xa_ct, if_pos (by simp [ah_p, h75, Int32.not_le.mp h100])] <;> rfl)) (And.intro rfl trivial)))))))))
set_option maxHeartbeats 4000000 in
theorem lx_fi22 (E : xa_EV) {L : List Nat} {T : xa_AH} {R : xa_AR} {nh ns k : Nat} {pw : Nat → Nat} {S : xa_AH} (hX : RX nh ns k pw L T R S) (xh kd m k1 : Int32) {h : Nat} (hh : h < nh) : ∀ x, x ≤ ns → (∀ i, i < x → xm_fnp ns S h kd m k1 i = false) → xa_W E mX7_find (xa_Z E mX7_find L (xa_pR (.int (xm_first (xm_fnp ns S h kd m k1) ns)) T R)) 0 0 22 [some (.ref (ci 0 129)), some (.int xh), some (.int kd), some (.int m), some (.int k1), some (.ref (ci h 0)), some (.int (nI x)), none, none] [] L T R := by
  refine xa_dn (fun x hxl ih => ?_)
  intro hno
  have n12 := hX.n12
  have n32 := hX.n32
  refine xa_iload (pc := 22) dX7_find_22 rfl ?_
  refine xa_aload_n (pc := 24) dX7_find_24 rfl ?_
  refine xa_getIv (pc := 25) 7 3 _ lfX7_103 dX7_find_25 hX.c_m129 (kd_129 _) rfl hX.g_ns ?_
  refine xa_icmpN_ge (pc := 28) 128 x ns dX7_find_28 (by decide) rfl rfl (by omega) (by omega) (fun h28 => ?_) (fun h28 => ?_)
  · have g28 : ¬ (x < ns) := by omega
    refine xa_iconst (pc := 128) (v := (-1)) dX7_find_128 (by decide) ?_
    exact xa_zret dX7_find_129 rfl rfl ⟨congrArg (fun z => some (Value.int z)) (xm_first_no (fun i hi => hno i (by omega))), rfl, rfl⟩
  · refine xa_aload_n (pc := 31) dX7_find_31 rfl ?_
    refine xa_aload (pc := 32) dX7_find_32 rfl ?_
    refine xa_getA (pc := 34) 3 4 (ci h 1) lfX7_134 dX7_find_34 ((hX.hS hh).1 0 (by decide)) (kd_0 _) rfl ((hX.hS hh).2 (0, 4, 1) (by decide)) ?_
    refine xa_iload (pc := 37) dX7_find_37 rfl ?_
    refine xa_iload_n (pc := 39) dX7_find_39 rfl ?_
    refine xa_iload_n (pc := 40) dX7_find_40 rfl ?_
    refine xa_callV (pc := 41) hX.c_m129 (kd_129 _) rfl lcX7_180 dX7_find_41 (cx_isFound E hX hh (s := x) rfl (by omega) _ _) rfl rfl (by decide) (Nat.le_of_ble_eq_true rfl) (by decide) ?_
    rintro _ _ _ ⟨rfl, rfl, rfl⟩
    refine xa_if_eq (pc := 44) 122 dX7_find_44 (by decide) (fun h44 => ?_) (fun h44 => ?_)
    · have h44 := xa_b_0.mp h44
      refine xa_iinc (pc := 122) (v := nI (x + 1)) dX7_find_122 rfl (by decide) (nI_1 _) ?_
      refine xa_goto (pc := 125) (tgt := 22) dX7_find_125 (by decide) ?_
      exact xa_fgk (ih (by omega) (fun i hi => by rcases Nat.lt_or_ge i x with c | c <;> first | exact hno i c | (have e : i = x := (by omega); subst e; simp [xm_fnp, h44]))) (And.intro rfl (And.intro rfl (And.intro rfl (And.intro rfl (And.intro rfl (And.intro rfl (And.intro rfl trivial)))))))
    · have h44 := xa_b_n0.mp h44
      refine xa_iconst (pc := 47) (v := 0) dX7_find_47 (by decide) ?_
      refine xa_istore (pc := 48) dX7_find_48 (by decide) ?_
      refine xa_iconst (pc := 50) (v := 0) dX7_find_50 (by decide) ?_
      refine xa_istore (pc := 51) dX7_find_51 (by decide) ?_
      refine xa_fgk (lx_fi53 E hX _ xh kd m k1 (s := x) hh (by omega) ?_ 0 (Nat.zero_le _)) (And.intro rfl (And.intro rfl (And.intro rfl (And.intro rfl (And.intro rfl (And.intro rfl (And.intro rfl (And.intro rfl (And.intro rfl trivial)))))))))
      refine xa_iload (pc := 112) dX7_find_112 rfl ?_
      refine xa_iload (pc := 114) dX7_find_114 rfl ?_
      refine xa_icmp_ne (pc := 116) 122 dX7_find_116 (by decide) (fun h116 => ?_) (fun h116 => ?_)
      · refine xa_iinc (pc := 122) (v := nI (x + 1)) dX7_find_122 rfl (by decide) (nI_1 _) ?_
        refine xa_goto (pc := 125) (tgt := 22) dX7_find_125 (by decide) ?_
        exact xa_fgk (ih (by omega) (fun i hi => by rcases Nat.lt_or_ge i x with c | c <;> first | exact hno i c | (have e : i = x := (by omega); subst e; simp [xm_fnp, h116]))) (And.intro rfl (And.intro rfl (And.intro rfl (And.intro rfl (And.intro rfl (And.intro rfl (And.intro rfl trivial)))))))
      · refine xa_iload (pc := 119) dX7_find_119 rfl ?_
        exact xa_zret dX7_find_121 rfl rfl ⟨congrArg (fun z => some (Value.int z)) (xm_first_yes hno (by simp [xm_fnp, h44, h116]) (by omega) (by omega)), rfl, rfl⟩
set_option maxHeartbeats 4000000 in
theorem cx_find (E : xa_EV) {L : List Nat} {T : xa_AH} {R : xa_AR} {nh ns k : Nat} {pw : Nat → Nat} {S : xa_AH} (hX : RX nh ns k pw L T R S) (xh kd m k1 : Int32) : xa_Ct E mX7_find [.ref (ci 0 129), .int xh, .int kd, .int m, .int k1] L T R (xa_pR (.int (xm_find nh ns S xh kd m k1)) T R) := by
  refine xa_Ct.of [some (.ref (ci 0 129)), some (.int xh), some (.int kd), some (.int m), some (.int k1), none, none, none, none] rfl (Nat.le_of_ble_eq_true rfl) (by simp [Value.category]) rfl ?_
  have n12 := hX.n12
  have n32 := hX.n32
  refine xa_aload_n (pc := 0) dX7_find_0 rfl ?_
  refine xa_iload_n (pc := 1) dX7_find_1 rfl ?_
  refine xa_callV (pc := 2) hX.c_m129 (kd_129 _) rfl lcX7_100 dX7_find_2 (cx_hostAt E hX _) rfl rfl (by decide) (Nat.le_of_ble_eq_true rfl) (by decide) ?_
  rintro _ _ _ ⟨⟨hq2, rfl⟩ | ⟨hq2, rfl⟩, rfl, rfl⟩
  · refine xa_astore (pc := 5) dX7_find_5 (by decide) ?_
    refine xa_aload (pc := 7) dX7_find_7 rfl ?_
    refine xa_ifnull_ref (pc := 9) dX7_find_9 ?_
    refine xa_iload (pc := 12) dX7_find_12 rfl ?_
    refine xa_if_ge (pc := 14) 19 dX7_find_14 (by decide) (fun h14 => ?_) (fun h14 => ?_)
    · refine xa_iconst (pc := 19) (v := 0) dX7_find_19 (by decide) ?_
      refine xa_istore (pc := 20) dX7_find_20 (by decide) ?_
      rw [show xm_find nh ns S xh kd m k1 = _ from if_pos (by simp [hq2, h14, Int32.not_lt.mpr h14])]
      exact xa_fgk (lx_fi22 E hX xh kd m k1 (isH_lt hX.h100 hq2) 0 (Nat.zero_le _) (fun i hi => absurd hi (Nat.not_lt_zero i))) (And.intro rfl (And.intro rfl (And.intro rfl (And.intro rfl (And.intro rfl (And.intro rfl (And.intro rfl trivial)))))))
    · refine xa_iconst (pc := 17) (v := (-1)) dX7_find_17 (by decide) ?_
      rw [show xm_find nh ns S xh kd m k1 = _ from if_neg (by simp [hq2, h14, Int32.not_le.mp h14])]
      exact xa_zret dX7_find_18 rfl rfl ⟨rfl, rfl, rfl⟩
  · refine xa_astoreN (pc := 5) dX7_find_5 (by decide) ?_
    refine xa_aloadN (pc := 7) dX7_find_7 rfl ?_
    refine xa_ifnull_null (pc := 9) 17 dX7_find_9 (by decide) ?_
    refine xa_iconst (pc := 17) (v := (-1)) dX7_find_17 (by decide) ?_
    rw [show xm_find nh ns S xh kd m k1 = _ from if_neg (by simp [hq2])]
    exact xa_zret dX7_find_18 rfl rfl ⟨rfl, rfl, rfl⟩
