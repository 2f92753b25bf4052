theorem ca_ha {S : xa_AH} {h kd row x : Nat} {m dd kp : Int32} (hx : x < 32) (h1 : S 147 x = nI kd) (h2 : bt (S 181 row) x = false) (hk : (kp = nI h) = (¬ S 138 h = 0)) : xm_ha1 h kd row m dd kp x S = if cq_ca S h x m = true then xm_due S h x dd else S := by
  have h3 : ¬ (S 181 row >>> (nI x &&& 31)) &&& 1 = 1 := fun g => by rw [(bt_sin hx).mp g] at h2; cases h2
  unfold xm_ha1 cq_ca
  simp only [h1, h3, hk]
  by_cases g : xm_spk S h x = true
  · simp [g]
  · simp [g]
set_option maxHeartbeats 4000000 in
theorem lx_ha109 (E : xa_EV) {L : List Nat} {T0 : xa_AH} {R : xa_AR} {nh ns k : Nat} {pw : Nat → Nat} {h w l kd q : Nat} (hh : h < nh) (hw : w < nh) (hkd : kd < 16) (hq : cs_l L R q) {S : xa_AH} (m kn dd kp : Int32) (hdd : vp_in dd 30300) : ∀ x, x ≤ ns → ∀ T U, RX nh ns k pw L T R U → U = xa_lp (xm_ha1 h kd (16 * l + kd) m dd kp) x S → U 136 h = 2 → ((kp = nI h) = (¬ U 138 h = 0)) → U 181 (16 * l + kd) = kn → fl T0 T → xa_W E mX7_hearAsk (xa_Z E mX7_hearAsk L (PF nh ns k pw L T0 R (xa_lp (xm_ha1 h kd (16 * l + kd) m dd kp) ns S))) 0 0 109 [some (.ref (ci 0 129)), some (.ref (ci h 0)), some (.ref (ci w 0)), some (.ref q), some (.int (nI kd)), some (.int m), some (.int kn), none, none, some (.int dd), some (.int (nI x))] [] L T R := by
  refine xa_dn (fun x hx ih => ?_)
  intro T U hX eU ha hkp hkn hfl
  have n12 := hX.n12
  have n32 := hX.n32
  refine xa_iload (pc := 109) dX7_hearAsk_109 rfl ?_
  refine xa_aload_n (pc := 111) dX7_hearAsk_111 rfl ?_
  refine xa_getIv (pc := 112) 7 3 _ lfX7_103 dX7_hearAsk_112 hX.c_m129 (kd_129 _) rfl hX.g_ns ?_
  refine xa_icmpN_ge (pc := 115) 172 x ns dX7_hearAsk_115 (by decide) rfl rfl (by omega) (by omega) (fun h115 => ?_) (fun h115 => ?_)
  · have g115 : ¬ (x < ns) := by omega
    have ex : x = ns := by omega
    subst ex
    exact xa_vret dX7_hearAsk_172 rfl ⟨rfl, rfl, by rw [← eU]; exact hX, hfl⟩
  · refine xa_aload_n (pc := 118) dX7_hearAsk_118 rfl ?_
    refine xa_getA (pc := 119) 7 1 (ci 0 127) lfX7_17 dX7_hearAsk_119 hX.c_m129 (kd_129 _) rfl hX.c_r1 ?_
    refine xa_iload (pc := 122) dX7_hearAsk_122 rfl ?_
    refine xa_aaldS (pc := 124) x (ci x 128) dX7_hearAsk_124 hX.c_m127 rfl (by omega) (hX.sA (by omega)) ?_
    refine xa_getIv (pc := 125) 5 2 _ lfX7_268 dX7_hearAsk_125 (hX.sM (by omega)) (kd_128 _) rfl (hX.s_kind (by omega)) ?_
    refine xa_iload (pc := 128) dX7_hearAsk_128 rfl ?_
    refine xa_icmp_ne (pc := 130) 166 dX7_hearAsk_130 (by decide) (fun h130 => ?_) (fun h130 => ?_)
    · refine xa_iinc (pc := 166) (v := nI (x + 1)) dX7_hearAsk_166 rfl (by decide) (nI_1 _) ?_
      refine xa_goto (pc := 169) (tgt := 109) dX7_hearAsk_169 (by decide) ?_
      exact xa_fgk (ih (by omega) _ _ hX (by rw [xa_lp, ← eU, xm_ha1, if_pos (Or.inl h130)]) ha hkp hkn hfl) (And.intro rfl (And.intro rfl (And.intro rfl (And.intro rfl (And.intro rfl (And.intro rfl (And.intro rfl (And.intro rfl (And.intro rfl trivial)))))))))
    · refine xa_iload (pc := 133) dX7_hearAsk_133 rfl ?_
      refine xa_iload (pc := 135) dX7_hearAsk_135 rfl ?_
      refine xa_callS (pc := 137) lcX7_381 dX7_hearAsk_137 (cx_isIn E _ (n := x) rfl (by omega)) rfl rfl (by decide) (Nat.le_of_ble_eq_true rfl) (by decide) ?_
      rintro _ _ _ ⟨rfl, rfl, rfl⟩
      refine xa_if_ne (pc := 140) 166 dX7_hearAsk_140 (by decide) (fun h140 => ?_) (fun h140 => ?_)
      · have h140 := xa_b_n0.mp h140
        refine xa_iinc (pc := 166) (v := nI (x + 1)) dX7_hearAsk_166 rfl (by decide) (nI_1 _) ?_
        refine xa_goto (pc := 169) (tgt := 109) dX7_hearAsk_169 (by decide) ?_
        exact xa_fgk (ih (by omega) _ _ hX (by rw [xa_lp, ← eU, xm_ha1, if_pos (Or.inr ((bt_sin (by omega)).mpr (by rw [hkn]; exact h140)))]) ha hkp hkn hfl) (And.intro rfl (And.intro rfl (And.intro rfl (And.intro rfl (And.intro rfl (And.intro rfl (And.intro rfl (And.intro rfl (And.intro rfl trivial)))))))))
      · have h140 := xa_b_0.mp h140
        refine xa_aload_n (pc := 143) dX7_hearAsk_143 rfl ?_
        refine xa_aload_n (pc := 144) dX7_hearAsk_144 rfl ?_
        refine xa_iload (pc := 145) dX7_hearAsk_145 rfl ?_
        refine xa_iload (pc := 147) dX7_hearAsk_147 rfl ?_
        refine xa_callV (pc := 149) hX.c_m129 (kd_129 _) rfl lcX7_430 dX7_hearAsk_149 (cx_canAnswer E hX hh ha (s := x) rfl (by omega) _) rfl rfl (by decide) (Nat.le_of_ble_eq_true rfl) (by decide) ?_
        rintro _ _ _ ⟨rfl, rfl, rfl⟩
        refine xa_if_eq (pc := 152) 166 dX7_hearAsk_152 (by decide) (fun h152 => ?_) (fun h152 => ?_)
        · have h152 := xa_b_0.mp h152
          refine xa_iinc (pc := 166) (v := nI (x + 1)) dX7_hearAsk_166 rfl (by decide) (nI_1 _) ?_
          refine xa_goto (pc := 169) (tgt := 109) dX7_hearAsk_169 (by decide) ?_
          exact xa_fgk (ih (by omega) _ _ hX (by rw [xa_lp, ← eU, ca_ha (by omega) h130 (by rw [hkn]; exact h140) hkp]; rw [if_neg (by rw [h152]; decide)]) ha hkp hkn hfl) (And.intro rfl (And.intro rfl (And.intro rfl (And.intro rfl (And.intro rfl (And.intro rfl (And.intro rfl (And.intro rfl (And.intro rfl trivial)))))))))
        · have h152 := xa_b_n0.mp h152
          refine xa_aload_n (pc := 155) dX7_hearAsk_155 rfl ?_
          refine xa_getA (pc := 156) 3 6 (ci h 9) lfX7_143 dX7_hearAsk_156 ((hX.hS hh).1 0 (by decide)) (kd_0 _) rfl ((hX.hS hh).2 (0, 6, 9) (by decide)) ?_
          refine xa_iload (pc := 159) dX7_hearAsk_159 rfl ?_
          refine xa_iload (pc := 161) dX7_hearAsk_161 rfl ?_
          refine xa_callV (pc := 163) ((hX.hS hh).1 9 (by decide)) (kd_9 _) rfl lcX7_434 dX7_hearAsk_163 (cx_comeDue E (hX.hS hh) (s := x) rfl (by omega) _) rfl rfl (by decide) (Nat.le_of_ble_eq_true rfl) (by decide) ?_
          rintro _ _ _ ⟨rfl, rfl, rfl⟩
          refine xa_iinc (pc := 166) (v := nI (x + 1)) dX7_hearAsk_166 rfl (by decide) (nI_1 _) ?_
          refine xa_goto (pc := 169) (tgt := 109) dX7_hearAsk_169 (by decide) ?_
          exact xa_fgk (ih (by omega) _ _ (rx_due hX hh (by omega) hdd) (by rw [xa_lp, ← eU, ca_ha (by omega) h130 (by rw [hkn]; exact h140) hkp]; rw [if_pos h152]) (by rw [due_a (by decide)]; exact ha) (by rw [due_a (by decide)]; exact hkp) (by rw [due_a (by decide)]; exact hkn) (fl_due hfl)) (And.intro rfl (And.intro rfl (And.intro rfl (And.intro rfl (And.intro rfl (And.intro rfl (And.intro rfl (And.intro rfl (And.intro rfl trivial)))))))))
theorem lot_in {h : Nat} {t : Int32} (hh : h < 12) (ht : vp_in t 30001) : vp_in (t + 1 + xm_lot (nI h) t) 30300 := by
  have l1 : xc t < 30001 := xa_in_lt ht
  have e1 : t = nI (xc t) := xa_in_eq ht
  have e : xm_lot (nI h) t = nI ((5 * h + 3 * xc t) % 4) := by
    unfold xm_lot
    rw [e1]
    have a1 : (5 : Int32) * nI h = nI (5 * h) := pk_mul 5 h
    have a2 : (3 : Int32) * nI (xc t) = nI (3 * xc t) := pk_mul 3 (xc t)
    rw [xc_n (by omega), a1, a2, nI_add]
    exact pk_rem (d := 4) (by omega) (by decide) (by decide)
  rw [e]
  have e2 : t + 1 + nI ((5 * h + 3 * xc t) % 4) = nI (xc t + 1 + (5 * h + 3 * xc t) % 4) := by
    rw [← nI_add, ← nI_1, ← e1]
  rw [e2]; exact vp_in_nI (by omega) (by decide)
theorem kp_is {nh ns k : Nat} {pw : Nat → Nat} {L : List Nat} {T : xa_AH} {R : xa_AR} {S : xa_AH} (hX : RX nh ns k pw L T R S) {h w : Nat} {net kp : Int32} (hh : h < nh) (ha : S 136 h = 2) (hne : h ≠ w) (hw : w < nh) (hnet : S 131 h = net) (hk : kp = xm_first (xm_kep S net (nI w)) nh) (hc : kp = -1 ∨ kp = nI h) : (kp = nI h) = (¬ S 138 h = 0) := by
  have n12 := hX.n12
  have hne2 : ¬ nI h = nI w := fun e => hne ((nI_eq (by omega) (by omega)).mp e)
  apply propext
  constructor
  · intro e g
    -- h is the first keeper
    have : ∀ n, n ≤ nh → xm_first (xm_kep S net (nI w)) n = nI h → xm_kep S net (nI w) h = true := by
      intro n
      induction n with
      | zero => intro _ q; exact absurd q (by
          intro c
          have c2 : (nI h).toInt = -1 := by rw [← c]; rfl
          rw [nI_toInt (by omega)] at c2; omega)
      | succ n ih =>
        intro hn q
        rw [xm_first] at q
        split at q
        · next c =>
          have := (nI_eq (by omega) (by omega)).mp q
          rw [← this]; exact c.2
        · exact ih (by omega) q
    have := this nh (Nat.le_refl _) (hk ▸ e)
    simp [xm_kep, g] at this
  · intro g
    rcases hc with e | e
    · exfalso
      have kt : xm_kep S net (nI w) h = true := by simp [xm_kep, hne2, ha, g, hnet]
      -- then the first one is not -1
      have : ∀ n, h < n → n ≤ nh → ¬ xm_first (xm_kep S net (nI w)) n = -1 := by
        intro n
        induction n with
        | zero => intro q; omega
        | succ n ih =>
          intro q hn c
          rw [xm_first] at c
          split at c
          · have c2 : (nI n).toInt = -1 := by rw [c]; rfl
            rw [nI_toInt (by omega)] at c2; omega
          · next d =>
            by_cases e2 : h = n
            · subst e2; exact d ⟨c, kt⟩
            · exact ih (by omega) (by omega) c
      exact this nh hh (Nat.le_refl _) (hk ▸ e)
    · exact e
set_option maxHeartbeats 4000000 in
theorem lx_ha69 (E : xa_EV) {L : List Nat} {T0 : xa_AH} {R : xa_AR} {nh ns k : Nat} {pw : Nat → Nat} {h w l kd q : Nat} (hh : h < nh) (hw : w < nh) (hkd : kd < 16) (hq : cs_l L R q) {T U : xa_AH} (hX : RX nh ns k pw L T R U) (hnl : ∀ i, i < nh → U 137 i = 0) (ha : U 136 h = 2) (hne : h ≠ w) (hT0 : T q 0 = U 177 l) (hwr : U 176 l = nI w) (hnet : U 131 h = U 177 l) (hfl : fl T0 T) : xa_W E mX7_hearAsk (xa_Z E mX7_hearAsk L (PF nh ns k pw L T0 R (xm_haD nh ns U h l kd (U 130 36)))) 0 0 69 [some (.ref (ci 0 129)), some (.ref (ci h 0)), some (.ref (ci w 0)), some (.ref q), some (.int (nI kd)), some (.int (U 180 (16 * l + kd))), some (.int (U 181 (16 * l + kd))), none, none, none, none] [] L T R := by
  have n12 := hX.n12
  have n32 := hX.n32
  have hDe : xm_haD nh ns U h l kd (U 130 36) = xm_haC nh ns U h l kd (U 130 36) (xm_first (xm_kep U (U 177 l) (nI w)) nh) := by unfold xm_haD; rw [hwr]
  refine xa_aload_n (pc := 69) dX7_hearAsk_69 rfl ?_
  refine xa_aload_n (pc := 70) dX7_hearAsk_70 rfl ?_
  refine xa_getIv (pc := 71) 4 0 _ lfX7_348 dX7_hearAsk_71 (hq).1 (hq).2.1 rfl hT0 ?_
  refine xa_aload_n (pc := 74) dX7_hearAsk_74 rfl ?_
  refine xa_callV (pc := 75) hX.c_m129 (kd_129 _) rfl lcX7_426 dX7_hearAsk_75 (cx_leastKeeperOn E hX hnl _ hw) rfl rfl (by decide) (Nat.le_of_ble_eq_true rfl) (by decide) ?_
  rintro _ _ _ ⟨⟨j, hj, hf, rfl⟩ | ⟨hf, rfl⟩, rfl, rfl⟩
  · refine xa_astore (pc := 78) dX7_hearAsk_78 (by decide) ?_
    refine xa_aload (pc := 80) dX7_hearAsk_80 rfl ?_
    refine xa_ifnull_ref (pc := 82) dX7_hearAsk_82 ?_
    refine xa_aload (pc := 85) dX7_hearAsk_85 rfl ?_
    refine xa_aload_n (pc := 87) dX7_hearAsk_87 rfl ?_
    refine xa_acmpC_eq (pc := 88) 92 (x := (ci j 0)) (y := (ci h 0)) dX7_hearAsk_88 (by decide) ((hX.hS hj).1 0 (by decide)) ((hX.hS hh).1 0 (by decide)) (fun h88 => ?_) (fun h88 => ?_)
    · have h88 := ci_i.mp h88
      refine xa_aload_n (pc := 92) dX7_hearAsk_92 rfl ?_
      refine xa_getIv (pc := 93) 7 4 _ lfX7_62 dX7_hearAsk_93 hX.c_m129 (kd_129 _) rfl hX.g_now ?_
      refine xa_iconst (pc := 96) (v := 1) dX7_hearAsk_96 (by decide) ?_
      refine xa_iadd (pc := 97) dX7_hearAsk_97 ?_
      refine xa_aload_n (pc := 98) dX7_hearAsk_98 rfl ?_
      refine xa_aload_n (pc := 99) dX7_hearAsk_99 rfl ?_
      refine xa_callV (pc := 100) hX.c_m129 (kd_129 _) rfl lcX7_80 dX7_hearAsk_100 (cx_lotOf E hX hh) rfl rfl (by decide) (Nat.le_of_ble_eq_true rfl) (by decide) ?_
      rintro _ _ _ ⟨rfl, rfl, rfl⟩
      refine xa_iadd (pc := 103) dX7_hearAsk_103 ?_
      refine xa_istore (pc := 104) dX7_hearAsk_104 (by decide) ?_
      refine xa_iconst (pc := 106) (v := 0) dX7_hearAsk_106 (by decide) ?_
      refine xa_istore (pc := 107) dX7_hearAsk_107 (by decide) ?_
      subst h88
      rw [hDe, hf, show xm_haC nh ns U j l kd (U 130 36) (nI j) = _ from if_pos (Or.inr rfl)]
      exact xa_fgk (lx_ha109 E hh hw hkd hq _ _ _ (nI j) (lot_in (by omega) hX.ig_t) 0 (Nat.zero_le _) _ _ hX rfl ha (kp_is hX hh ha hne hw hnet hf.symm (Or.inr rfl)) rfl hfl) (And.intro rfl (And.intro rfl (And.intro rfl (And.intro rfl (And.intro rfl (And.intro rfl (And.intro rfl (And.intro rfl (And.intro rfl trivial)))))))))
    · have h88 : ¬ (j = h) := fun q => h88 (ci_i.mpr q)
      rw [hDe, hf, show xm_haC nh ns U h l kd (U 130 36) (nI j) = _ from if_neg (by
        rintro (e | e)
        · have c2 : (nI j).toInt = -1 := by rw [e]; rfl
          rw [nI_toInt (by omega)] at c2; omega
        · exact h88 ((nI_eq (by omega) (by omega)).mp e))]
      exact xa_vret dX7_hearAsk_91 rfl ⟨rfl, rfl, hX, hfl⟩
  · refine xa_astoreN (pc := 78) dX7_hearAsk_78 (by decide) ?_
    refine xa_aloadN (pc := 80) dX7_hearAsk_80 rfl ?_
    refine xa_ifnull_null (pc := 82) 92 dX7_hearAsk_82 (by decide) ?_
    refine xa_aload_n (pc := 92) dX7_hearAsk_92 rfl ?_
    refine xa_getIv (pc := 93) 7 4 _ lfX7_62 dX7_hearAsk_93 hX.c_m129 (kd_129 _) rfl hX.g_now ?_
    refine xa_iconst (pc := 96) (v := 1) dX7_hearAsk_96 (by decide) ?_
    refine xa_iadd (pc := 97) dX7_hearAsk_97 ?_
    refine xa_aload_n (pc := 98) dX7_hearAsk_98 rfl ?_
    refine xa_aload_n (pc := 99) dX7_hearAsk_99 rfl ?_
    refine xa_callV (pc := 100) hX.c_m129 (kd_129 _) rfl lcX7_80 dX7_hearAsk_100 (cx_lotOf E hX hh) rfl rfl (by decide) (Nat.le_of_ble_eq_true rfl) (by decide) ?_
    rintro _ _ _ ⟨rfl, rfl, rfl⟩
    refine xa_iadd (pc := 103) dX7_hearAsk_103 ?_
    refine xa_istore (pc := 104) dX7_hearAsk_104 (by decide) ?_
    refine xa_iconst (pc := 106) (v := 0) dX7_hearAsk_106 (by decide) ?_
    refine xa_istore (pc := 107) dX7_hearAsk_107 (by decide) ?_
    rw [hDe, hf, show xm_haC nh ns U h l kd (U 130 36) (-1) = _ from if_pos (Or.inl rfl)]
    exact xa_fgk (lx_ha109 E hh hw hkd hq _ _ _ (-1) (lot_in (by omega) hX.ig_t) 0 (Nat.zero_le _) _ _ hX rfl ha (kp_is hX hh ha hne hw hnet hf.symm (Or.inl rfl)) rfl hfl) (And.intro rfl (And.intro rfl (And.intro rfl (And.intro rfl (And.intro rfl (And.intro rfl (And.intro rfl (And.intro rfl (And.intro rfl trivial)))))))))
set_option maxHeartbeats 4000000 in
theorem cx_hearAsk (E : xa_EV) {L : List Nat} {T : xa_AH} {R : xa_AR} {nh ns k : Nat} {pw : Nat → Nat} {S : xa_AH} (hX : RX nh ns k pw L T R S) {h w l q : Nat} (hh : h < nh) (hw : w < nh) (hq : cs_l L R q) (hlq : lcell q) {kd : Nat} {xkd : Int32} (ekd : xkd = nI kd) (hkd : kd < 16) (hnl : ∀ i, i < nh → S 137 i = 0) (ha : S 136 h = 2) (hne : h ≠ w) (hT0 : T q 0 = S 177 l) (hwr : S 176 l = nI w) (hnet : S 131 h = S 177 l) (hT1 : T (q + 3) kd = S 180 (16 * l + kd)) (hT2 : T (q + 4) kd = S 181 (16 * l + kd)) : xa_Ct E mX7_hearAsk [.ref (ci 0 129), .ref (ci h 0), .ref (ci w 0), .ref q, .int xkd] L T R (PF nh ns k pw L T R (xm_ha nh ns h l kd (S 130 36) S)) := by
  subst ekd
  refine xa_Ct.of [some (.ref (ci 0 129)), some (.ref (ci h 0)), some (.ref (ci w 0)), some (.ref q), some (.int (nI kd)), none, none, none, none, none, none] rfl (Nat.le_of_ble_eq_true rfl) (by simp [Value.category]) rfl ?_
  have n12 := hX.n12
  have n32 := hX.n32
  refine xa_aload_n (pc := 0) dX7_hearAsk_0 rfl ?_
  refine xa_getA (pc := 1) 4 2 (q + 3) lfX7_420 dX7_hearAsk_1 (hq).1 (hq).2.1 rfl (cl_r2 hq) ?_
  refine xa_iload (pc := 4) dX7_hearAsk_4 rfl ?_
  refine xa_ialdC (pc := 6) kd _ dX7_hearAsk_6 (cl_m2 hq) (cl_k2 hq) (cl_n2 hq) rfl (by omega) (by decide) hT1 ?_
  refine xa_istore (pc := 7) dX7_hearAsk_7 (by decide) ?_
  refine xa_aload_n (pc := 9) dX7_hearAsk_9 rfl ?_
  refine xa_getA (pc := 10) 4 3 (q + 4) lfX7_423 dX7_hearAsk_10 (hq).1 (hq).2.1 rfl (cl_r3 hq) ?_
  refine xa_iload (pc := 13) dX7_hearAsk_13 rfl ?_
  refine xa_ialdC (pc := 15) kd _ dX7_hearAsk_15 (cl_m3 hq) (cl_k3 hq) (cl_n3 hq) rfl (by omega) (by decide) hT2 ?_
  refine xa_istore (pc := 16) dX7_hearAsk_16 (by decide) ?_
  refine xa_aload_n (pc := 18) dX7_hearAsk_18 rfl ?_
  refine xa_getA (pc := 19) 3 5 (ci h 6) lfX7_71 dX7_hearAsk_19 ((hX.hS hh).1 0 (by decide)) (kd_0 _) rfl ((hX.hS hh).2 (0, 5, 6) (by decide)) ?_
  refine xa_astore (pc := 22) dX7_hearAsk_22 (by decide) ?_
  refine xa_aload (pc := 24) dX7_hearAsk_24 rfl ?_
  refine xa_iload (pc := 26) dX7_hearAsk_26 rfl ?_
  refine xa_callV (pc := 28) ((hX.hS hh).1 6 (by decide)) (kd_6 _) rfl lcX7_75 dX7_hearAsk_28 (rq_ahas E hX hh (k1 := kd) rfl (by omega)) rfl rfl (by decide) (Nat.le_of_ble_eq_true rfl) (by decide) ?_
  rintro _ _ _ ⟨rfl, rfl, rfl⟩
  refine xa_if_eq (pc := 31) 69 dX7_hearAsk_31 (by decide) (fun h31 => ?_) (fun h31 => ?_)
  · have h31 := xa_b_0.mp h31
    rw [show xm_ha nh ns h l kd (S 130 36) S = xm_haD nh ns S h l kd (S 130 36) from by unfold xm_ha; rw [if_neg (fun g => by simp at h31; exact g.1 h31)]]
    exact xa_fgk (lx_ha69 E (l := l) hh hw hkd hq hX hnl ha hne hT0 hwr hnet fl_rf) (And.intro rfl (And.intro rfl (And.intro rfl (And.intro rfl (And.intro rfl (And.intro rfl (And.intro rfl trivial)))))))
  · have h31 := xa_b_n0.mp h31
    refine xa_aload (pc := 34) dX7_hearAsk_34 rfl ?_
    refine xa_getA (pc := 36) 1 0 (ci h 7) lfX7_305 dX7_hearAsk_36 ((hX.hS hh).1 6 (by decide)) (kd_6 _) rfl ((hX.hS hh).2 (6, 0, 7) (by decide)) ?_
    refine xa_iload (pc := 39) dX7_hearAsk_39 rfl ?_
    refine xa_ialdC (pc := 41) kd _ dX7_hearAsk_41 ((hX.hS hh).1 7 (by decide)) (kd_7 _) (ln_7 _) rfl (by omega) (by decide) (hX.a_marks hh (by omega)) ?_
    refine xa_iload (pc := 42) dX7_hearAsk_42 rfl ?_
    refine xa_icmp_ne (pc := 44) 69 dX7_hearAsk_44 (by decide) (fun h44 => ?_) (fun h44 => ?_)
    · rw [show xm_ha nh ns h l kd (S 130 36) S = xm_haD nh ns S h l kd (S 130 36) from by unfold xm_ha; rw [if_neg (fun g => h44 g.2.1)]]
      exact xa_fgk (lx_ha69 E (l := l) hh hw hkd hq hX hnl ha hne hT0 hwr hnet fl_rf) (And.intro rfl (And.intro rfl (And.intro rfl (And.intro rfl (And.intro rfl (And.intro rfl (And.intro rfl trivial)))))))
    · refine xa_iload (pc := 47) dX7_hearAsk_47 rfl ?_
      refine xa_aload_n (pc := 49) dX7_hearAsk_49 rfl ?_
      refine xa_aload_n (pc := 50) dX7_hearAsk_50 rfl ?_
      refine xa_iload (pc := 51) dX7_hearAsk_51 rfl ?_
      refine xa_callV (pc := 53) hX.c_m129 (kd_129 _) rfl lcX7_306 dX7_hearAsk_53 (cx_knownTo E hX hh _) rfl rfl (by decide) (Nat.le_of_ble_eq_true rfl) (by decide) ?_
      rintro _ _ _ ⟨rfl, rfl, rfl⟩
      refine xa_iconst (pc := 56) (v := (-1)) dX7_hearAsk_56 (by decide) ?_
      refine xa_ixor (pc := 57) dX7_hearAsk_57 ?_
      refine xa_iand (pc := 58) dX7_hearAsk_58 ?_
      refine xa_if_ne (pc := 59) 69 dX7_hearAsk_59 (by decide) (fun h59 => ?_) (fun h59 => ?_)
      · rw [show xm_ha nh ns h l kd (S 130 36) S = xm_haD nh ns S h l kd (S 130 36) from by unfold xm_ha; rw [if_neg (fun g => h59 g.2.2)]]
        exact xa_fgk (lx_ha69 E (l := l) hh hw hkd hq hX hnl ha hne hT0 hwr hnet fl_rf) (And.intro rfl (And.intro rfl (And.intro rfl (And.intro rfl (And.intro rfl (And.intro rfl (And.intro rfl trivial)))))))
      · refine xa_aload (pc := 62) dX7_hearAsk_62 rfl ?_
        refine xa_iload (pc := 64) dX7_hearAsk_64 rfl ?_
        refine xa_callV (pc := 66) ((hX.hS hh).1 6 (by decide)) (kd_6 _) rfl lcX7_316 dX7_hearAsk_66 (cx_aremove E (hX.hS hh) (k := kd) rfl (by omega)) rfl rfl (by decide) (Nat.le_of_ble_eq_true rfl) (by decide) ?_
        rintro _ _ _ ⟨rfl, rfl, rfl⟩
        rw [show xm_ha nh ns h l kd (S 130 36) S = xm_haD nh ns (xa_up S 164 (16 * h + kd) 0) h l kd (S 130 36) from by unfold xm_ha; rw [if_pos ⟨by simpa using h31, h44, h59⟩]]
        exact xa_fgk (lx_ha69 E (l := l) hh hw hkd hq (rx_askrem hX hh hkd) hnl ha hne (by rw [up_l (by decide) (by decide) hlq]; exact hT0) hwr hnet (fl_up fl_rf (by decide) (by decide))) (And.intro rfl (And.intro rfl (And.intro rfl (And.intro rfl (And.intro rfl (And.intro rfl (And.intro rfl trivial)))))))
