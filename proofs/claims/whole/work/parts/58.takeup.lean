def PQ (nh ns k : Nat) (pw : Nat → Nat) (L : List Nat) (q : Nat) (T : xa_AH) (R : xa_AR) (S : xa_AH) : Option Value → xa_AH → xa_AR → Prop := fun r T2 R2 => none = r ∧ R = R2 ∧ RX nh ns k pw L T2 R S ∧ T2 q = T q
theorem lp_rest {f : Nat → xa_AH → xa_AH} {S U : xa_AH} {x : Nat} (e : U = xa_lp f x S) : ∀ n, x ≤ n → (∀ i, x ≤ i → i < n → f i U = U) → xa_lp f n S = U
  | 0, h, _ => by have : x = 0 := by omega
                  subst this; exact e.symm
  | n + 1, h, g => by
    by_cases c : x = n + 1
    · rw [← c]; exact e.symm
    · rw [xa_lp, lp_rest e n (by omega) (fun i h1 h2 => g i h1 (by omega))]
      exact g n (by omega) (by omega)
theorem cy2_nc {U : xa_AH} {h l to x kk o : Nat} {net : Int32} (hk : U 147 x = nI kk) (hk2 : kk < 32) (hn : net = nI o) (ho : o < 32) (hcar : bt (U 140 h) kk = false) : xm_cy2 h l to net x U = U := by
  have e1 : xm_cyC h l to net x U = U := by
    unfold xm_cyC; rw [car_e hk hk2 hn ho, hcar, if_neg (fun g => absurd g.2 (by simp))]
  have e2 : xm_cyB h l to net x U = U := by
    unfold xm_cyB; rw [car_e hk hk2 hn ho, hcar, if_neg (fun g => absurd g.2 (by simp))]
  have e3 : xm_cyT h l to net x U = U := by
    unfold xm_cyT; rw [car_e hk hk2 hn ho, hcar, if_neg (fun g => absurd g.2.2 (by simp))]
  unfold xm_cy2; rw [e1, e2, e3]
theorem cy2_no {T U : xa_AH} {h l to x q : Nat} {net nb : Int32} (hx : x < 32) (g : lr T q U l nb) (hno : bt (T q 5 ||| T q 8 ||| T q 10) x = false) : xm_cy2 h l to net x U = U := by
  rw [b_or, b_or, (g.2.2 x hx).1.1, (g.2.2 x hx).2.1.1, (g.2.2 x hx).2.2.1] at hno
  simp only [Bool.or_eq_false_iff, decide_eq_false_iff_not] at hno
  have e1 : xm_cyC h l to net x U = U := by
    unfold xm_cyC; rw [if_neg (fun c => c.1 (Int32.not_lt.mp hno.1.1))]
  have e2 : xm_cyB h l to net x U = U := by
    unfold xm_cyB; rw [if_neg (fun c => hno.1.2 c.1)]
  have e3 : xm_cyT h l to net x U = U := by
    unfold xm_cyT; rw [if_neg (fun c => c.1 (Int32.not_lt.mp hno.2))]
  unfold xm_cy2; rw [e1, e2, e3]
theorem lr_v {T U : xa_AH} {q l : Nat} {nb c0 : Int32} (g : lr T q (xa_up U 130 44 c0) l nb) : lr T q U l nb := by rw [lr_S (by decide)] at g; exact g
set_option maxHeartbeats 4000000 in
theorem lx_tu122 (E : xa_EV) {L : List Nat} {T0 : xa_AH} {R : xa_AR} {nh ns k : Nat} {pw : Nat → Nat} {h w l q wq to o b0 : Nat} {c0 net : Int32} (hrow : ∀ T2 S2, RX nh ns k pw L T2 R S2 → T2 q = T0 q → lrow T2 S2 w q l) (hlq : lat w q) (hqw : q ≠ wq) (hh : h < nh) (hw : wside R h wq to) (hn : net = nI o) (ho : o < 4) (hq : cs_l L R q) (hwq : cs_l L R wq) {S : xa_AH} (hb0 : ¬ S 139 h = 0) (ha0 : ¬ S 136 h = 0) : ∀ x, x ≤ ns → ∀ T U, TJ nh ns k pw L R q wq T0 c0 b0 T U → U = xa_lp (xm_cy2 h l to net) x S → xa_W E mX7_takeUp (xa_Z E mX7_takeUp L (PQ nh ns k pw L q T0 R (xa_lp (xm_cy2 h l to net) ns S))) 0 0 122 [some (.ref (ci 0 129)), some (.ref (ci h 0)), some (.ref (ci h 80)), some (.ref q), none, some (.ref wq), some (.int net), some (.int (nI b0)), some (.int (T0 q 5 ||| T0 q 8 ||| T0 q 10)), some (.int (nI x))] [] L T R := by
  refine xa_dn (fun x hx ih => ?_)
  intro T U hJ eU
  have hX := hJ.1
  have n12 := hX.n12
  have n32 := hX.n32
  have hr := hrow T _ hX hJ.2.2
  have hb : ¬ U 139 h = 0 := by rw [eU, lp_a (fun i V => cy2_a (by decide) (by decide))]; exact hb0
  have ha : ¬ U 136 h = 0 := by rw [eU, lp_a (fun i V => cy2_a (by decide) (by decide))]; exact ha0
  refine xa_iload (pc := 122) dX7_takeUp_122 rfl ?_
  refine xa_aload_n (pc := 124) dX7_takeUp_124 rfl ?_
  refine xa_getIv (pc := 125) 7 3 _ lfX7_103 dX7_takeUp_125 hX.c_m129 (kd_129 _) rfl hX.g_ns ?_
  refine xa_icmpN_ge (pc := 128) 194 x ns dX7_takeUp_128 (by decide) rfl rfl (by omega) (by omega) (fun h128 => ?_) (fun h128 => ?_)
  · have g128 : ¬ (x < ns) := by omega
    refine xa_aload_n (pc := 194) dX7_takeUp_194 rfl ?_
    refine xa_dup (pc := 195) dX7_takeUp_195 rfl ?_
    refine xa_getIv (pc := 196) 7 12 c0 lfX7_247 dX7_takeUp_196 hX.c_m129 (kd_129 _) rfl (hX.g_takenUp.trans up_s) ?_
    refine xa_aload (pc := 199) dX7_takeUp_199 rfl ?_
    refine xa_callV (pc := 201) (hwq).1 (hwq).2.1 rfl lcX7_364 dX7_takeUp_201 (cx_lsize E hwq) rfl rfl (by decide) (Nat.le_of_ble_eq_true rfl) (by decide) ?_
    rintro _ _ _ ⟨rfl, rfl, rfl⟩
    refine xa_iload (pc := 204) dX7_takeUp_204 rfl ?_
    refine xa_isub (pc := 206) dX7_takeUp_206 ?_
    refine xa_iadd (pc := 207) dX7_takeUp_207 ?_
    refine xa_putI (pc := 208) 7 12 lpX7_247 dX7_takeUp_208 hX.c_m129 (kd_129 _) rfl rfl rfl ?_
    have ex : x = ns := by omega
    subst ex
    rw [← eU]
    have e := rx_ctakenUp (v := c0 + (nI (lsz T wq) - nI b0)) hX
    rw [up_up, up_same hJ.2.1] at e
    exact xa_vret dX7_takeUp_211 rfl ⟨rfl, rfl, e, by rw [up_l (by decide) (by decide) (lat_lc hlq).1]; exact hJ.2.2⟩
  · refine xa_iload (pc := 131) dX7_takeUp_131 rfl ?_
    refine xa_iload (pc := 133) dX7_takeUp_133 rfl ?_
    refine xa_callS (pc := 135) lcX7_381 dX7_takeUp_135 (cx_isIn E _ (n := x) rfl (by omega)) rfl rfl (by decide) (Nat.le_of_ble_eq_true rfl) (by decide) ?_
    rintro _ _ _ ⟨rfl, rfl, rfl⟩
    refine xa_if_eq (pc := 138) 188 dX7_takeUp_138 (by decide) (fun h138 => ?_) (fun h138 => ?_)
    · have h138 := xa_b_0.mp h138
      refine xa_iinc (pc := 188) (v := nI (x + 1)) dX7_takeUp_188 rfl (by decide) (nI_1 _) ?_
      refine xa_goto (pc := 191) (tgt := 122) dX7_takeUp_191 (by decide) ?_
      rw [← hJ.2.2] at h138
      exact xa_fgk (ih (by omega) _ _ hJ (by rw [xa_lp, ← eU, cy2_no (by omega) (lr_v hr.2.2.2) h138])) (And.intro rfl (And.intro rfl (And.intro rfl (And.intro rfl (And.intro rfl (And.intro rfl (And.intro rfl (And.intro rfl (And.intro rfl trivial)))))))))
    · have h138 := xa_b_n0.mp h138
      have hkd : U 147 x = nI (xc (U 147 x)) ∧ xc (U 147 x) < 32 := ⟨xa_in_eq (hX.is_kd (s := x) (by omega)), by have z : xc (U 147 x) < 16 := xa_in_lt (hX.is_kd (s := x) (by omega)); omega⟩
      refine xa_aload_n (pc := 141) dX7_takeUp_141 rfl ?_
      refine xa_aload_n (pc := 142) dX7_takeUp_142 rfl ?_
      refine xa_getA (pc := 143) 7 1 (ci 0 127) lfX7_17 dX7_takeUp_143 hX.c_m129 (kd_129 _) rfl hX.c_r1 ?_
      refine xa_iload (pc := 146) dX7_takeUp_146 rfl ?_
      refine xa_aaldS (pc := 148) x (ci x 128) dX7_takeUp_148 hX.c_m127 rfl (by omega) (hX.sA (by omega)) ?_
      refine xa_getIv (pc := 149) 5 2 (U 147 x) lfX7_268 dX7_takeUp_149 (hX.sM (by omega)) (kd_128 _) rfl (hX.s_kind (by omega)) ?_
      refine xa_callV (pc := 152) (hX.l_br hh hb).1 (kd_80 _) rfl lcX7_374 dX7_takeUp_152 (cx_carries E hX hh hb (n := (xc (U 147 x))) hkd.1 (by omega)) rfl rfl (by decide) (Nat.le_of_ble_eq_true rfl) (by decide) ?_
      rintro _ _ _ ⟨rfl, rfl, rfl⟩
      refine xa_if_eq (pc := 155) 188 dX7_takeUp_155 (by decide) (fun h155 => ?_) (fun h155 => ?_)
      · have h155 := xa_b_0.mp h155
        refine xa_iinc (pc := 188) (v := nI (x + 1)) dX7_takeUp_188 rfl (by decide) (nI_1 _) ?_
        refine xa_goto (pc := 191) (tgt := 122) dX7_takeUp_191 (by decide) ?_
        exact xa_fgk (ih (by omega) _ _ hJ (by rw [xa_lp, ← eU, cy2_nc hkd.1 hkd.2 hn (by omega) h155])) (And.intro rfl (And.intro rfl (And.intro rfl (And.intro rfl (And.intro rfl (And.intro rfl (And.intro rfl (And.intro rfl (And.intro rfl trivial)))))))))
      · have h155 := xa_b_n0.mp h155
        refine xa_aload (pc := 158) dX7_takeUp_158 rfl ?_
        refine xa_aload_n (pc := 160) dX7_takeUp_160 rfl ?_
        refine xa_iload (pc := 161) dX7_takeUp_161 rfl ?_
        refine xa_iload (pc := 163) dX7_takeUp_163 rfl ?_
        refine xa_callV (pc := 165) (hwq).1 (hwq).2.1 rfl lcX7_384 dX7_takeUp_165 (cx_takeClaim E hwq hq (s := x) rfl (by omega) (o := o) hn (by omega)) rfl rfl (by decide) (Nat.le_of_ble_eq_true rfl) (by decide) ?_
        rintro _ _ _ ⟨rfl, rfl, rfl⟩
        refine xa_aload (pc := 168) dX7_takeUp_168 rfl ?_
        refine xa_aload_n (pc := 170) dX7_takeUp_170 rfl ?_
        refine xa_iload (pc := 171) dX7_takeUp_171 rfl ?_
        refine xa_iload (pc := 173) dX7_takeUp_173 rfl ?_
        refine xa_callV (pc := 175) (hwq).1 (hwq).2.1 rfl lcX7_387 dX7_takeUp_175 (cx_takeBye E hwq hq (s := x) rfl (by omega) (o := o) hn (by omega)) rfl rfl (by decide) (Nat.le_of_ble_eq_true rfl) (by decide) ?_
        rintro _ _ _ ⟨rfl, rfl, rfl⟩
        refine xa_aload (pc := 178) dX7_takeUp_178 rfl ?_
        refine xa_aload_n (pc := 180) dX7_takeUp_180 rfl ?_
        refine xa_iload (pc := 181) dX7_takeUp_181 rfl ?_
        refine xa_iload (pc := 183) dX7_takeUp_183 rfl ?_
        refine xa_callV (pc := 185) (hwq).1 (hwq).2.1 rfl lcX7_390 dX7_takeUp_185 (cx_takeTelling E hwq hq (s := x) rfl (by omega) (o := o) hn (by omega)) rfl rfl (by decide) (Nat.le_of_ble_eq_true rfl) (by decide) ?_
        rintro _ _ _ ⟨rfl, rfl, rfl⟩
        refine xa_iinc (pc := 188) (v := nI (x + 1)) dX7_takeUp_188 rfl (by decide) (nI_1 _) ?_
        refine xa_goto (pc := 191) (tgt := 122) dX7_takeUp_191 (by decide) ?_
        have j1 := tk_claim hJ hrow hlq hqw hh hb ha hw hn (by omega) (show x < 32 by omega) hkd h155
        have j2 := tk_bye j1 hrow hlq hqw hh (by rw [cyC_a (by decide) (by decide)]; exact hb) (by rw [cyC_a (by decide) (by decide)]; exact ha) hw hn (by omega) (show x < 32 by omega) (by rw [cyC_a (by decide) (by decide)]; exact hkd) (by rw [cyC_a (by decide) (by decide), cyC_a (by decide) (by decide)]; exact h155)
        have j3 := tk_tell j2 hrow hlq hqw hh (by rw [cyB_a (by decide) (by decide), cyC_a (by decide) (by decide)]; exact hb) (by rw [cyB_a (by decide) (by decide), cyC_a (by decide) (by decide)]; exact ha) hw hn (by omega) (show x < 32 by omega) (by rw [cyB_a (by decide) (by decide), cyC_a (by decide) (by decide)]; exact hkd) (by rw [cyB_a (by decide) (by decide), cyC_a (by decide) (by decide), cyB_a (by decide) (by decide), cyC_a (by decide) (by decide)]; exact h155)
        exact xa_fgk (ih (by omega) _ _ j3 (by rw [xa_lp, ← eU]; rfl)) (And.intro rfl (And.intro rfl (And.intro rfl (And.intro rfl (And.intro rfl (And.intro rfl (And.intro rfl (And.intro rfl (And.intro rfl trivial)))))))))
set_option maxHeartbeats 4000000 in
theorem lx_tu80 (E : xa_EV) {L : List Nat} {T0 : xa_AH} {R : xa_AR} {nh ns k : Nat} {pw : Nat → Nat} {h w l q wq to o b0 : Nat} {c0 net : Int32} (hrow : ∀ T2 S2, RX nh ns k pw L T2 R S2 → T2 q = T0 q → lrow T2 S2 w q l) (hlq : lat w q) (hqw : q ≠ wq) (hh : h < nh) (hw : wside R h wq to) (hn : net = nI o) (ho : o < 4) (hq : cs_l L R q) (hwq : cs_l L R wq) {S : xa_AH} (hb0 : ¬ S 139 h = 0) (ha0 : ¬ S 136 h = 0) : ∀ x, x ≤ 16 → ∀ T U, TJ nh ns k pw L R q wq T0 c0 b0 T U → U = xa_lp (xm_cy1 h l to net) x S → xa_W E mX7_takeUp (xa_Z E mX7_takeUp L (PQ nh ns k pw L q T0 R (xm_cyL ns h l to net S))) 0 0 80 [some (.ref (ci 0 129)), some (.ref (ci h 0)), some (.ref (ci h 80)), some (.ref q), none, some (.ref wq), some (.int net), some (.int (nI b0)), some (.int (T0 q 5 ||| T0 q 8 ||| T0 q 10)), some (.int (nI x))] [] L T R := by
  refine xa_dn (fun x hx ih => ?_)
  intro T U hJ eU
  have hX := hJ.1
  have n12 := hX.n12
  have n32 := hX.n32
  have hr := hrow T _ hX hJ.2.2
  have hb : ¬ U 139 h = 0 := by rw [eU, lp_a (fun i V => cy1_a (by decide) (by decide))]; exact hb0
  have ha : ¬ U 136 h = 0 := by rw [eU, lp_a (fun i V => cy1_a (by decide) (by decide))]; exact ha0
  refine xa_iload (pc := 80) dX7_takeUp_80 rfl ?_
  refine xa_bipush (pc := 82) (v := 16) dX7_takeUp_82 (by decide) ?_
  refine xa_icmpN_ge (pc := 84) 119 x 16 dX7_takeUp_84 (by decide) rfl rfl (by omega) (by omega) (fun h84 => ?_) (fun h84 => ?_)
  · have g84 : ¬ (x < 16) := by omega
    refine xa_iconst (pc := 119) (v := 0) dX7_takeUp_119 (by decide) ?_
    refine xa_istore (pc := 120) dX7_takeUp_120 (by decide) ?_
    have el : xa_lp (xm_cy1 h l to net) 16 S = U := by have ex : x = 16 := by omega
                                                       rw [← ex]; exact eU.symm
    unfold xm_cyL
    rw [el]
    exact xa_fgk (lx_tu122 E hrow hlq hqw hh hw hn ho hq hwq hb ha 0 (Nat.zero_le _) _ _ hJ rfl) (And.intro rfl (And.intro rfl (And.intro rfl (And.intro rfl (And.intro rfl (And.intro rfl (And.intro rfl (And.intro rfl (And.intro rfl trivial)))))))))
  · refine xa_aload_n (pc := 87) dX7_takeUp_87 rfl ?_
    refine xa_getI (pc := 88) 4 1 lfX7_372 dX7_takeUp_88 (hq).1 (hq).2.1 rfl ?_
    refine xa_if_eq (pc := 91) 119 dX7_takeUp_91 (by decide) (fun h91 => ?_) (fun h91 => ?_)
    · refine xa_iconst (pc := 119) (v := 0) dX7_takeUp_119 (by decide) ?_
      refine xa_istore (pc := 120) dX7_takeUp_120 (by decide) ?_
      have el : xa_lp (xm_cy1 h l to net) 16 S = U := lp_rest eU 16 (by omega) (fun i h1 h2 => by
        have z := ((lr_v hr.2.2.2).1 i h2).1
        rw [h91, b_0] at z
        rw [xm_cy1, if_pos (Or.inl (by simpa using z.symm))])
      unfold xm_cyL
      rw [el]
      exact xa_fgk (lx_tu122 E hrow hlq hqw hh hw hn ho hq hwq hb ha 0 (Nat.zero_le _) _ _ hJ rfl) (And.intro rfl (And.intro rfl (And.intro rfl (And.intro rfl (And.intro rfl (And.intro rfl (And.intro rfl (And.intro rfl (And.intro rfl trivial)))))))))
    · refine xa_aload_n (pc := 94) dX7_takeUp_94 rfl ?_
      refine xa_iload (pc := 95) dX7_takeUp_95 rfl ?_
      refine xa_callV (pc := 97) (hX.l_br hh hb).1 (kd_80 _) rfl lcX7_374 dX7_takeUp_97 (cx_carries E hX hh hb (n := x) rfl (by omega)) rfl rfl (by decide) (Nat.le_of_ble_eq_true rfl) (by decide) ?_
      rintro _ _ _ ⟨rfl, rfl, rfl⟩
      refine xa_if_eq (pc := 100) 113 dX7_takeUp_100 (by decide) (fun h100 => ?_) (fun h100 => ?_)
      · have h100 := xa_b_0.mp h100
        refine xa_iinc (pc := 113) (v := nI (x + 1)) dX7_takeUp_113 rfl (by decide) (nI_1 _) ?_
        refine xa_goto (pc := 116) (tgt := 80) dX7_takeUp_116 (by decide) ?_
        exact xa_fgk (ih (by omega) _ _ hJ (by rw [xa_lp, ← eU, xm_cy1, car_e (k := x) rfl (by omega) hn (by omega), show bt (U 140 h) x = false from h100, if_pos (by simp)])) (And.intro rfl (And.intro rfl (And.intro rfl (And.intro rfl (And.intro rfl (And.intro rfl (And.intro rfl (And.intro rfl (And.intro rfl trivial)))))))))
      · have h100 := xa_b_n0.mp h100
        refine xa_aload (pc := 103) dX7_takeUp_103 rfl ?_
        refine xa_aload_n (pc := 105) dX7_takeUp_105 rfl ?_
        refine xa_iload (pc := 106) dX7_takeUp_106 rfl ?_
        refine xa_iload (pc := 108) dX7_takeUp_108 rfl ?_
        refine xa_callV (pc := 110) (hwq).1 (hwq).2.1 rfl lcX7_377 dX7_takeUp_110 (cx_takeAsk E hwq hq (k := x) rfl (by omega) (o := o) hn (by omega)) rfl rfl (by decide) (Nat.le_of_ble_eq_true rfl) (by decide) ?_
        rintro _ _ _ ⟨rfl, rfl, rfl⟩
        refine xa_iinc (pc := 113) (v := nI (x + 1)) dX7_takeUp_113 rfl (by decide) (nI_1 _) ?_
        refine xa_goto (pc := 116) (tgt := 80) dX7_takeUp_116 (by decide) ?_
        exact xa_fgk (ih (by omega) _ _ (tk_ask hJ hrow hlq hqw hh hb ha hw hn (by omega) (show x < 16 by omega) h100) (by rw [xa_lp, ← eU])) (And.intro rfl (And.intro rfl (And.intro rfl (And.intro rfl (And.intro rfl (And.intro rfl (And.intro rfl (And.intro rfl (And.intro rfl trivial)))))))))
set_option maxHeartbeats 4000000 in
theorem lx_tu54 (E : xa_EV) {L : List Nat} {T0 : xa_AH} {R : xa_AR} {nh ns k : Nat} {pw : Nat → Nat} {h w l q wq to o : Nat} {net : Int32} (hrow : ∀ T2 S2, RX nh ns k pw L T2 R S2 → T2 q = T0 q → lrow T2 S2 w q l) (hlq : lat w q) (hqw : q ≠ wq) (hh : h < nh) (hw : wside R h wq to) (hn : net = nI o) (ho : o < 4) (hq : cs_l L R q) (hwq : cs_l L R wq) {S : xa_AH} (hb0 : ¬ S 139 h = 0) (ha0 : ¬ S 136 h = 0) (hX : RX nh ns k pw L T0 R S) : xa_W E mX7_takeUp (xa_Z E mX7_takeUp L (PQ nh ns k pw L q T0 R (xm_cyL ns h l to net S))) 0 0 54 [some (.ref (ci 0 129)), some (.ref (ci h 0)), some (.ref (ci h 80)), some (.ref q), none, some (.ref wq), some (.int net), none, none, none] [] L T0 R := by
  have n12 := hX.n12
  have n32 := hX.n32
  refine xa_aload (pc := 54) dX7_takeUp_54 rfl ?_
  refine xa_callV (pc := 56) (hwq).1 (hwq).2.1 rfl lcX7_364 dX7_takeUp_56 (cx_lsize E hwq) rfl rfl (by decide) (Nat.le_of_ble_eq_true rfl) (by decide) ?_
  rintro _ _ _ ⟨rfl, rfl, rfl⟩
  refine xa_istore (pc := 59) dX7_takeUp_59 (by decide) ?_
  refine xa_aload_n (pc := 61) dX7_takeUp_61 rfl ?_
  refine xa_getI (pc := 62) 4 5 lfX7_365 dX7_takeUp_62 (hq).1 (hq).2.1 rfl ?_
  refine xa_aload_n (pc := 65) dX7_takeUp_65 rfl ?_
  refine xa_getI (pc := 66) 4 8 lfX7_366 dX7_takeUp_66 (hq).1 (hq).2.1 rfl ?_
  refine xa_ior (pc := 69) dX7_takeUp_69 ?_
  refine xa_aload_n (pc := 70) dX7_takeUp_70 rfl ?_
  refine xa_getI (pc := 71) 4 10 lfX7_369 dX7_takeUp_71 (hq).1 (hq).2.1 rfl ?_
  refine xa_ior (pc := 74) dX7_takeUp_74 ?_
  refine xa_istore (pc := 75) dX7_takeUp_75 (by decide) ?_
  refine xa_iconst (pc := 77) (v := 0) dX7_takeUp_77 (by decide) ?_
  refine xa_istore (pc := 78) dX7_takeUp_78 (by decide) ?_
  exact xa_fgk (lx_tu80 E hrow hlq hqw hh hw hn ho hq hwq hb0 ha0 0 (Nat.zero_le _) _ _ ⟨by rw [up_same rfl]; exact hX, by simp, rfl⟩ rfl) (And.intro rfl (And.intro rfl (And.intro rfl (And.intro rfl (And.intro rfl (And.intro rfl (And.intro rfl (And.intro rfl (And.intro rfl trivial)))))))))
set_option maxHeartbeats 4000000 in
theorem cx_takeUp (E : xa_EV) {L : List Nat} {T : xa_AH} {R : xa_AR} {nh ns k : Nat} {pw : Nat → Nat} {S : xa_AH} (hX : RX nh ns k pw L T R S) {h w l q : Nat} (hh : h < nh) (hb : ¬ S 139 h = 0) (ha : S 136 h = 2) (hwh : w ≠ h) (hq : cs_l L R q) (hlq : lat w q) (hrow : ∀ T2 S2, RX nh ns k pw L T2 R S2 → T2 q = T q → lrow T2 S2 w q l) : xa_Ct E mX7_takeUp [.ref (ci 0 129), .ref (ci h 0), .ref (ci h 80), .ref q] L T R (PQ nh ns k pw L q T R (xm_cy ns h l S)) := by
  refine xa_Ct.of [some (.ref (ci 0 129)), some (.ref (ci h 0)), some (.ref (ci h 80)), some (.ref q), none, none, none, none, none, none] rfl (Nat.le_of_ble_eq_true rfl) (by simp [Value.category]) rfl ?_
  have n12 := hX.n12
  have n32 := hX.n32
  have hr := hrow T S hX rfl
  refine xa_aload_n (pc := 0) dX7_takeUp_0 rfl ?_
  refine xa_getIv (pc := 1) 4 0 _ lfX7_348 dX7_takeUp_1 (hq).1 (hq).2.1 rfl hr.2.1.symm ?_
  refine xa_aload_n (pc := 4) dX7_takeUp_4 rfl ?_
  refine xa_getIv (pc := 5) 3 7 _ lfX7_88 dX7_takeUp_5 ((hX.hS hh).1 0 (by decide)) (kd_0 _) rfl (hX.h_net hh) ?_
  refine xa_icmp_ne (pc := 8) 15 dX7_takeUp_8 (by decide) (fun h8 => ?_) (fun h8 => ?_)
  · refine xa_iconst (pc := 15) (v := 0) dX7_takeUp_15 (by decide) ?_
    refine xa_istore (pc := 16) dX7_takeUp_16 (by decide) ?_
    refine xa_iload (pc := 18) dX7_takeUp_18 rfl ?_
    refine xa_if_eq (pc := 20) 30 dX7_takeUp_20 (by decide) (fun _ => ?_) (fun hc => absurd hc (by decide))
    refine xa_aload_n (pc := 30) dX7_takeUp_30 rfl ?_
    refine xa_getA (pc := 31) 2 3 (wh R h) lfX7_340 dX7_takeUp_31 (hX.l_br hh hb).1 (kd_80 _) rfl (hX.l_br hh hb).2.2.1 ?_
    refine xa_astore (pc := 34) dX7_takeUp_34 (by decide) ?_
    refine xa_iload (pc := 36) dX7_takeUp_36 rfl ?_
    refine xa_if_eq (pc := 38) 48 dX7_takeUp_38 (by decide) (fun _ => ?_) (fun hc => absurd hc (by decide))
    refine xa_aload_n (pc := 48) dX7_takeUp_48 rfl ?_
    refine xa_getIv (pc := 49) 3 7 _ lfX7_88 dX7_takeUp_49 ((hX.hS hh).1 0 (by decide)) (kd_0 _) rfl (hX.h_net hh) ?_
    refine xa_istore (pc := 52) dX7_takeUp_52 (by decide) ?_
    rw [show xm_cy ns h l S = _ from if_neg h8]
    have hn2 := hX.ih_net hh
    exact xa_fgk (lx_tu54 E hrow hlq (fun e => lat_host hlq (lat_b hX hh hb).2.1 hwh e) hh (Or.inr ⟨rfl, rfl⟩) (xa_in_eq hn2) (xa_in_lt hn2) hq (hX.l_br hh hb).2.2.2.2.2.1 hb (by rw [ha]; decide) hX) (And.intro rfl (And.intro rfl (And.intro rfl (And.intro rfl (And.intro rfl (And.intro rfl trivial))))))
  · refine xa_iconst (pc := 11) (v := 1) dX7_takeUp_11 (by decide) ?_
    refine xa_goto (pc := 12) (tgt := 16) dX7_takeUp_12 (by decide) ?_
    refine xa_istore (pc := 16) dX7_takeUp_16 (by decide) ?_
    refine xa_iload (pc := 18) dX7_takeUp_18 rfl ?_
    refine xa_if_eq (pc := 20) 30 dX7_takeUp_20 (by decide) (fun hc => absurd hc (by decide)) (fun _ => ?_)
    refine xa_aload_n (pc := 23) dX7_takeUp_23 rfl ?_
    refine xa_getA (pc := 24) 2 4 (w2 R h) lfX7_344 dX7_takeUp_24 (hX.l_br hh hb).1 (kd_80 _) rfl (hX.l_br hh hb).2.2.2.1 ?_
    refine xa_goto (pc := 27) (tgt := 34) dX7_takeUp_27 (by decide) ?_
    refine xa_astore (pc := 34) dX7_takeUp_34 (by decide) ?_
    refine xa_iload (pc := 36) dX7_takeUp_36 rfl ?_
    refine xa_if_eq (pc := 38) 48 dX7_takeUp_38 (by decide) (fun hc => absurd hc (by decide)) (fun _ => ?_)
    refine xa_aload_n (pc := 41) dX7_takeUp_41 rfl ?_
    refine xa_getIv (pc := 42) 2 1 _ lfX7_209 dX7_takeUp_42 (hX.l_br hh hb).1 (kd_80 _) rfl (hX.h_bnet hh hb) ?_
    refine xa_goto (pc := 45) (tgt := 52) dX7_takeUp_45 (by decide) ?_
    refine xa_istore (pc := 52) dX7_takeUp_52 (by decide) ?_
    rw [show xm_cy ns h l S = _ from if_pos h8]
    have hn2 := hX.ih_s1 hh hb
    exact xa_fgk (lx_tu54 E hrow hlq (fun e => lat_host hlq (lat_b hX hh hb).2.2 hwh e) hh (Or.inl ⟨rfl, rfl⟩) (xa_in_eq hn2) (xa_in_lt hn2) hq (hX.l_br hh hb).2.2.2.2.2.2.1 hb (by rw [ha]; decide) hX) (And.intro rfl (And.intro rfl (And.intro rfl (And.intro rfl (And.intro rfl (And.intro rfl trivial))))))
