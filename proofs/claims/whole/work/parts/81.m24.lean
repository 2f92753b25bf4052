def xm_twp (nh : Nat) (S : xa_AH) (net : Int32) (a b : Nat) : Bool := decide (a < b) && (decide (S 148 a = S 148 b) && (xm_isp nh S a net && xm_isp nh S b net))
def xm_tws (nh ns : Nat) (S : xa_AH) (net : Int32) : Nat → Nat
  | 0 => 0
  | a + 1 => xm_tws nh ns S net a + xa_ct (xm_twp nh S net a) ns
def xm_twice (nh ns : Nat) (S : xa_AH) (net : Int32) : Int32 := if xm_in net 0 3 = true then nI (xm_tws nh ns S net ns) else -1
theorem ct_no {p : Nat → Bool} : ∀ {n : Nat}, (∀ i, i < n → p i = false) → xa_ct p n = 0
  | 0, _ => rfl
  | n + 1, h => by rw [xa_ct, ct_no (fun i hi => h i (by omega)), h n (by omega)]; rfl
set_option maxHeartbeats 4000000 in
theorem lm_tw28 (E : xa_EV) (S : xa_AH) {nh ns : Nat} (hW : xm_wf nh ns S) (Z : xa_ZC) (net : Int32) {a N0 : Nat} (ha : a < ns) (K : xa_W E mX8_twice Z 0 0 86 [some (.ref 130), some (.int net), some (.int (nI (N0 + xa_ct (xm_twp nh S net a) ns))), some (.int (nI a)), none] [] xm_L S xm_R) : ∀ x, x ≤ ns → a < x → xa_W E mX8_twice Z 0 0 28 [some (.ref 130), some (.int net), some (.int (nI (N0 + xa_ct (xm_twp nh S net a) x))), some (.int (nI a)), some (.int (nI x))] [] xm_L S xm_R := by
  refine xa_dn (fun x hxl ih => ?_)
  intro hax
  obtain ⟨w1, w2, w3, w4, w5⟩ := id hW
  refine xa_iload (pc := 28) dX8_twice_28 rfl ?_
  refine xa_aload_n (pc := 30) dX8_twice_30 rfl ?_
  refine xa_getI (pc := 31) 8 26 lfX8_170 dX8_twice_31 xm_o rfl rfl ?_
  refine xa_icmpN_ge (pc := 34) 86 x ns dX8_twice_34 (by decide) rfl w4 (by omega) (by omega) (fun h34 => ?_) (fun h34 => ?_)
  · have g34 : ¬ (x < ns) := by omega
    have ex9 : x = ns := by omega
    subst ex9
    exact xa_fgk (K) (And.intro rfl (And.intro rfl (And.intro rfl (And.intro rfl trivial))))
  · have hlt : a < x := by omega
    refine xa_iload_n (pc := 37) dX8_twice_37 rfl ?_
    refine xa_aload_n (pc := 38) dX8_twice_38 rfl ?_
    refine xa_getA (pc := 39) 8 17 148 lfX8_59 dX8_twice_39 xm_o rfl rfl rfl ?_
    refine xa_iload_n (pc := 42) dX8_twice_42 rfl ?_
    refine xa_ialdN (pc := 43) a dX8_twice_43 xm_148 rfl rfl (by show _ < 32; omega) (by decide) ?_
    refine xa_aload_n (pc := 44) dX8_twice_44 rfl ?_
    refine xa_getA (pc := 45) 8 17 148 lfX8_59 dX8_twice_45 xm_o rfl rfl rfl ?_
    refine xa_iload (pc := 48) dX8_twice_48 rfl ?_
    refine xa_ialdN (pc := 50) x dX8_twice_50 xm_148 rfl rfl (by show _ < 32; omega) (by decide) ?_
    refine xa_icmp_ne (pc := 51) 77 dX8_twice_51 (by decide) (fun h51 => ?_) (fun h51 => ?_)
    · refine xa_iconst (pc := 77) (v := 0) dX8_twice_77 (by decide) ?_
      refine xa_iadd (pc := 78) dX8_twice_78 ?_
      refine xa_istore_n (pc := 79) dX8_twice_79 (by decide) ?_
      refine xa_iinc (pc := 80) (v := nI (x + 1)) dX8_twice_80 rfl (by decide) (nI_1 _) ?_
      refine xa_goto (pc := 83) (tgt := 28) dX8_twice_83 (by decide) ?_
      exact xa_fgk (ih (by omega) (by omega)) (And.intro rfl (And.intro rfl (And.intro (congrArg (fun z => some (Value.int z)) (by rw [xa_ct, if_neg (by simp [xm_twp, h51]), ← Nat.add_assoc]; exact (xa_pa rfl rfl))) (And.intro rfl (And.intro rfl trivial)))))
    · refine xa_aload_n (pc := 54) dX8_twice_54 rfl ?_
      refine xa_iload_n (pc := 55) dX8_twice_55 rfl ?_
      refine xa_iload_n (pc := 56) dX8_twice_56 rfl ?_
      refine xa_callV (pc := 57) xm_o rfl rfl lcX8_317 dX8_twice_57 (cm_isSpoken E _ hW (s := a) rfl (by omega) _) rfl rfl (by decide) (Nat.le_of_ble_eq_true rfl) (by decide) ?_
      rintro _ _ _ ⟨rfl, rfl, rfl⟩
      refine xa_if_eq (pc := 60) 77 dX8_twice_60 (by decide) (fun h60 => ?_) (fun h60 => ?_)
      · have h60 := xa_b_0.mp h60
        refine xa_iconst (pc := 77) (v := 0) dX8_twice_77 (by decide) ?_
        refine xa_iadd (pc := 78) dX8_twice_78 ?_
        refine xa_istore_n (pc := 79) dX8_twice_79 (by decide) ?_
        refine xa_iinc (pc := 80) (v := nI (x + 1)) dX8_twice_80 rfl (by decide) (nI_1 _) ?_
        refine xa_goto (pc := 83) (tgt := 28) dX8_twice_83 (by decide) ?_
        exact xa_fgk (ih (by omega) (by omega)) (And.intro rfl (And.intro rfl (And.intro (congrArg (fun z => some (Value.int z)) (by rw [xa_ct, if_neg (by simp [xm_twp, h51, h60]), ← Nat.add_assoc]; exact (xa_pa rfl rfl))) (And.intro rfl (And.intro rfl trivial)))))
      · have h60 := xa_b_n0.mp h60
        refine xa_aload_n (pc := 63) dX8_twice_63 rfl ?_
        refine xa_iload (pc := 64) dX8_twice_64 rfl ?_
        refine xa_iload_n (pc := 66) dX8_twice_66 rfl ?_
        refine xa_callV (pc := 67) xm_o rfl rfl lcX8_317 dX8_twice_67 (cm_isSpoken E _ hW (s := x) rfl (by omega) _) rfl rfl (by decide) (Nat.le_of_ble_eq_true rfl) (by decide) ?_
        rintro _ _ _ ⟨rfl, rfl, rfl⟩
        refine xa_if_eq (pc := 70) 77 dX8_twice_70 (by decide) (fun h70 => ?_) (fun h70 => ?_)
        · have h70 := xa_b_0.mp h70
          refine xa_iconst (pc := 77) (v := 0) dX8_twice_77 (by decide) ?_
          refine xa_iadd (pc := 78) dX8_twice_78 ?_
          refine xa_istore_n (pc := 79) dX8_twice_79 (by decide) ?_
          refine xa_iinc (pc := 80) (v := nI (x + 1)) dX8_twice_80 rfl (by decide) (nI_1 _) ?_
          refine xa_goto (pc := 83) (tgt := 28) dX8_twice_83 (by decide) ?_
          exact xa_fgk (ih (by omega) (by omega)) (And.intro rfl (And.intro rfl (And.intro (congrArg (fun z => some (Value.int z)) (by rw [xa_ct, if_neg (by simp [xm_twp, h51, h60, h70]), ← Nat.add_assoc]; exact (xa_pa rfl rfl))) (And.intro rfl (And.intro rfl trivial)))))
        · have h70 := xa_b_n0.mp h70
          refine xa_iconst (pc := 73) (v := 1) dX8_twice_73 (by decide) ?_
          refine xa_goto (pc := 74) (tgt := 78) dX8_twice_74 (by decide) ?_
          refine xa_iadd (pc := 78) dX8_twice_78 ?_
          refine xa_istore_n (pc := 79) dX8_twice_79 (by decide) ?_
          refine xa_iinc (pc := 80) (v := nI (x + 1)) dX8_twice_80 rfl (by decide) (nI_1 _) ?_
          refine xa_goto (pc := 83) (tgt := 28) dX8_twice_83 (by decide) ?_
          exact xa_fgk (ih (by omega) (by omega)) (And.intro rfl (And.intro rfl (And.intro (congrArg (fun z => some (Value.int z)) (by rw [xa_ct, if_pos (by simp [xm_twp, h51, h60, h70, hlt]), ← Nat.add_assoc]; exact (xa_pa rfl rfl))) (And.intro rfl (And.intro rfl trivial)))))
set_option maxHeartbeats 4000000 in
theorem lm_tw15 (E : xa_EV) (S : xa_AH) {nh ns : Nat} (hW : xm_wf nh ns S) (net : Int32) : ∀ x, x ≤ ns → xa_W E mX8_twice (xa_Z E mX8_twice xm_L (xa_pR (.int (nI (xm_tws nh ns S net ns))) S xm_R)) 0 0 15 [some (.ref 130), some (.int net), some (.int (nI (xm_tws nh ns S net x))), some (.int (nI x)), none] [] xm_L S xm_R := by
  refine xa_dn (fun x hxl ih => ?_)
  obtain ⟨w1, w2, w3, w4, w5⟩ := id hW
  refine xa_iload_n (pc := 15) dX8_twice_15 rfl ?_
  refine xa_aload_n (pc := 16) dX8_twice_16 rfl ?_
  refine xa_getI (pc := 17) 8 26 lfX8_170 dX8_twice_17 xm_o rfl rfl ?_
  refine xa_icmpN_ge (pc := 20) 92 x ns dX8_twice_20 (by decide) rfl w4 (by omega) (by omega) (fun h20 => ?_) (fun h20 => ?_)
  · have g20 : ¬ (x < ns) := by omega
    refine xa_iload_n (pc := 92) dX8_twice_92 rfl ?_
    have ex9 : x = ns := by omega
    subst ex9
    exact xa_zret dX8_twice_93 rfl rfl ⟨rfl, rfl, rfl⟩
  · refine xa_iload_n (pc := 23) dX8_twice_23 rfl ?_
    refine xa_iconst (pc := 24) (v := 1) dX8_twice_24 (by decide) ?_
    refine xa_iadd (pc := 25) dX8_twice_25 ?_
    refine xa_istore (pc := 26) dX8_twice_26 (by decide) ?_
    refine xa_fgk (lm_tw28 E S hW _ net (a := x) (N0 := xm_tws nh ns S net x) (by omega) ?_ (x + 1) (by omega) (by omega)) (And.intro rfl (And.intro rfl (And.intro (congrArg (fun z => some (Value.int (nI z))) (show xm_tws nh ns S net x = xm_tws nh ns S net x + xa_ct (xm_twp nh S net x) (x + 1) by rw [ct_no (fun i hi => by simp [xm_twp]; omega)]; rfl)) (And.intro rfl (And.intro (congrArg (fun z => some (Value.int z)) (xa_pa rfl rfl)) trivial)))))
    refine xa_iinc (pc := 86) (v := nI (x + 1)) dX8_twice_86 rfl (by decide) (nI_1 _) ?_
    refine xa_goto (pc := 89) (tgt := 15) dX8_twice_89 (by decide) ?_
    exact xa_fgk (ih (by omega)) (And.intro rfl (And.intro rfl (And.intro rfl (And.intro rfl trivial))))
set_option maxHeartbeats 4000000 in
theorem cm_twice (E : xa_EV) (S : xa_AH) {nh ns : Nat} (hW : xm_wf nh ns S) (net : Int32) : xa_Ct E mX8_twice [.ref 130, .int net] xm_L S xm_R (xa_pR (.int (xm_twice nh ns S net)) S xm_R) := by
  refine xa_Ct.of [some (.ref 130), some (.int net), none, none, none] rfl (Nat.le_of_ble_eq_true rfl) (by simp [Value.category]) rfl ?_
  obtain ⟨w1, w2, w3, w4, w5⟩ := id hW
  refine xa_iload_n (pc := 0) dX8_twice_0 rfl ?_
  refine xa_iconst (pc := 1) (v := 0) dX8_twice_1 (by decide) ?_
  refine xa_iconst (pc := 2) (v := 3) dX8_twice_2 (by decide) ?_
  refine xa_callS (pc := 3) lcX8_159 dX8_twice_3 (cm_in E _ _ _ _ _ _) rfl rfl (by decide) (Nat.le_of_ble_eq_true rfl) (by decide) ?_
  rintro _ _ _ ⟨rfl, rfl, rfl⟩
  refine xa_if_ne (pc := 6) 11 dX8_twice_6 (by decide) (fun h6 => ?_) (fun h6 => ?_)
  · have h6 := xa_b_n0.mp h6
    refine xa_iconst (pc := 11) (v := 0) dX8_twice_11 (by decide) ?_
    refine xa_istore_n (pc := 12) dX8_twice_12 (by decide) ?_
    refine xa_iconst (pc := 13) (v := 0) dX8_twice_13 (by decide) ?_
    refine xa_istore_n (pc := 14) dX8_twice_14 (by decide) ?_
    rw [show xm_twice nh ns S net = _ from if_pos h6]
    exact xa_fgk (lm_tw15 E S hW net 0 (Nat.zero_le _)) (And.intro rfl (And.intro rfl (And.intro rfl (And.intro rfl trivial))))
  · have h6 := xa_b_0.mp h6
    refine xa_iconst (pc := 9) (v := (-1)) dX8_twice_9 (by decide) ?_
    rw [show xm_twice nh ns S net = _ from if_neg (by rw [h6]; decide)]
    exact xa_zret dX8_twice_10 rfl rfl ⟨rfl, rfl, rfl⟩
def br_s (S : xa_AH) (h : Int32) (s : Nat) : Bool := decide (S 146 s = h)
def br_a (S : xa_AH) (h : Int32) (k : Nat) : Bool := decide (¬ S 164 (16 * xc h + k) = 0)
def br_p (S : xa_AH) (h : Int32) (x : Nat) : Bool := decide (S 136 x = 1) && decide (S 141 x = h)
def xm_brc (nh : Nat) (S : xa_AH) (h net kd : Int32) : Bool := xm_up nh S h && (xm_in net 0 3 && (decide (¬ net = S 131 (xc h)) && (xm_in kd 0 65535 && (decide (S 139 (xc h) = 0) && decide (S 138 (xc h) = 0)))))
def xm_brS (S : xa_AH) (h : Nat) (net kd : Int32) : xa_AH := xm_emp h (xa_up (xa_up (xa_up S 139 h 1) 132 h net) 140 h kd)
def xm_bridge (nh ns : Nat) (S : xa_AH) (h net kd : Int32) : Bool × xa_AH := if xm_brc nh S h net kd = true ∧ xa_any (br_s S h) ns = false ∧ xa_any (br_a S h) 16 = false ∧ xa_any (br_p S h) nh = false then (true, xm_brS S (xc h) net kd) else (false, S)
set_option maxHeartbeats 4000000 in
theorem lm_br124 (E : xa_EV) (S : xa_AH) {nh ns : Nat} (hW : xm_wf nh ns S) (h net kd : Int32) (hb : xm_brc nh S h net kd = true) (hv1 : vp_in h nh) (e1 : xa_any (br_s S h) ns = false) (e2 : xa_any (br_a S h) 16 = false)  : ∀ x, x ≤ nh → (∀ i, i < x → br_p S h i = false) → xa_W E mX8_bridge (xa_Z E mX8_bridge xm_L (xa_pR (.int (xa_b (xm_bridge nh ns S h net kd).1)) (xm_bridge nh ns S h net kd).2 xm_R)) 0 0 124 [some (.ref 130), some (.int h), some (.int net), some (.int kd), some (.int (nI x))] [] xm_L S xm_R := by
  refine xa_dn (fun x hxl ih => ?_)
  intro hno
  obtain ⟨w1, w2, w3, w4, w5⟩ := id hW
  have hb1 : xc h < nh := xa_in_lt hv1
  refine xa_iload (pc := 124) dX8_bridge_124 rfl ?_
  refine xa_aload_n (pc := 126) dX8_bridge_126 rfl ?_
  refine xa_getI (pc := 127) 8 14 lfX8_155 dX8_bridge_127 xm_o rfl rfl ?_
  refine xa_icmpN_ge (pc := 130) 163 x nh dX8_bridge_130 (by decide) rfl w3 (by omega) (by omega) (fun h130 => ?_) (fun h130 => ?_)
  · have g130 : ¬ (x < nh) := by omega
    refine xa_aload_n (pc := 163) dX8_bridge_163 rfl ?_
    refine xa_getA (pc := 164) 8 8 139 lfX8_35 dX8_bridge_164 xm_o rfl rfl rfl ?_
    refine xa_iload_n (pc := 167) dX8_bridge_167 rfl ?_
    refine xa_iconst (pc := 168) (v := 1) dX8_bridge_168 (by decide) ?_
    refine xa_zastN (pc := 169) (xc h) dX8_bridge_169 xm_139 rfl (xa_in_eq hv1) (by show _ < 12; omega) (by decide) rfl ?_
    refine xa_aload_n (pc := 170) dX8_bridge_170 rfl ?_
    refine xa_getA (pc := 171) 8 1 132 lfX8_13 dX8_bridge_171 xm_o rfl rfl rfl ?_
    refine xa_iload_n (pc := 174) dX8_bridge_174 rfl ?_
    refine xa_iload_n (pc := 175) dX8_bridge_175 rfl ?_
    refine xa_iastN (pc := 176) (xc h) dX8_bridge_176 xm_132 rfl (xa_in_eq hv1) (by show _ < 12; omega) (by decide) ?_
    refine xa_aload_n (pc := 177) dX8_bridge_177 rfl ?_
    refine xa_getA (pc := 178) 8 9 140 lfX8_38 dX8_bridge_178 xm_o rfl rfl rfl ?_
    refine xa_iload_n (pc := 181) dX8_bridge_181 rfl ?_
    refine xa_iload_n (pc := 182) dX8_bridge_182 rfl ?_
    refine xa_iastN (pc := 183) (xc h) dX8_bridge_183 xm_140 rfl (xa_in_eq hv1) (by show _ < 12; omega) (by decide) ?_
    refine xa_aload_n (pc := 184) dX8_bridge_184 rfl ?_
    refine xa_iload_n (pc := 185) dX8_bridge_185 rfl ?_
    refine xa_callV (pc := 186) xm_o rfl rfl lcX8_212 dX8_bridge_186 (cm_empties E _ (h := (xc h)) (xa_in_eq hv1) (by omega)) rfl rfl (by decide) (Nat.le_of_ble_eq_true rfl) (by decide) ?_
    rintro _ _ _ ⟨rfl, rfl, rfl⟩
    refine xa_iconst (pc := 189) (v := 1) dX8_bridge_189 (by decide) ?_
    have e3 := xa_any_no.mpr (show ∀ i, i < nh → br_p S h i = false from fun i hi => hno i (by omega))
    rw [show xm_bridge nh ns S h net kd = _ from if_pos ⟨hb, e1, e2, e3⟩]
    exact xa_zret dX8_bridge_190 rfl (by decide) ⟨rfl, rfl, rfl⟩
  · refine xa_aload_n (pc := 133) dX8_bridge_133 rfl ?_
    refine xa_getA (pc := 134) 8 5 136 lfX8_25 dX8_bridge_134 xm_o rfl rfl rfl ?_
    refine xa_iload (pc := 137) dX8_bridge_137 rfl ?_
    refine xa_ialdN (pc := 139) x dX8_bridge_139 xm_136 rfl rfl (by show _ < 12; omega) (by decide) ?_
    refine xa_iconst (pc := 140) (v := 1) dX8_bridge_140 (by decide) ?_
    refine xa_icmp_ne (pc := 141) 157 dX8_bridge_141 (by decide) (fun h141 => ?_) (fun h141 => ?_)
    · refine xa_iinc (pc := 157) (v := nI (x + 1)) dX8_bridge_157 rfl (by decide) (nI_1 _) ?_
      refine xa_goto (pc := 160) (tgt := 124) dX8_bridge_160 (by decide) ?_
      exact xa_fgk (ih (by omega) (fun i hi => by rcases Nat.lt_or_ge i x with c | c <;> first | exact hno i c | (have e : i = x := (by omega); subst e; simp [br_p, h141]))) (And.intro rfl (And.intro rfl (And.intro rfl (And.intro rfl (And.intro rfl trivial)))))
    · refine xa_aload_n (pc := 144) dX8_bridge_144 rfl ?_
      refine xa_getA (pc := 145) 8 10 141 lfX8_41 dX8_bridge_145 xm_o rfl rfl rfl ?_
      refine xa_iload (pc := 148) dX8_bridge_148 rfl ?_
      refine xa_ialdN (pc := 150) x dX8_bridge_150 xm_141 rfl rfl (by show _ < 12; omega) (by decide) ?_
      refine xa_iload_n (pc := 151) dX8_bridge_151 rfl ?_
      refine xa_icmp_ne (pc := 152) 157 dX8_bridge_152 (by decide) (fun h152 => ?_) (fun h152 => ?_)
      · refine xa_iinc (pc := 157) (v := nI (x + 1)) dX8_bridge_157 rfl (by decide) (nI_1 _) ?_
        refine xa_goto (pc := 160) (tgt := 124) dX8_bridge_160 (by decide) ?_
        exact xa_fgk (ih (by omega) (fun i hi => by rcases Nat.lt_or_ge i x with c | c <;> first | exact hno i c | (have e : i = x := (by omega); subst e; simp [br_p, h141, h152]))) (And.intro rfl (And.intro rfl (And.intro rfl (And.intro rfl (And.intro rfl trivial)))))
      · refine xa_iconst (pc := 155) (v := 0) dX8_bridge_155 (by decide) ?_
        rw [show xm_bridge nh ns S h net kd = _ from if_neg (fun c => by have q := xa_any_yes (p := br_p S h) (n := nh) (i := x) (by omega) (by simp [br_p, h141, h152]); rw [c.2.2.2] at q; cases q)]
        exact xa_zret dX8_bridge_156 rfl (by decide) ⟨rfl, rfl, rfl⟩
set_option maxHeartbeats 4000000 in
theorem lm_br91 (E : xa_EV) (S : xa_AH) {nh ns : Nat} (hW : xm_wf nh ns S) (h net kd : Int32) (hb : xm_brc nh S h net kd = true) (hv1 : vp_in h nh) (e1 : xa_any (br_s S h) ns = false)  : ∀ x, x ≤ 16 → (∀ i, i < x → br_a S h i = false) → xa_W E mX8_bridge (xa_Z E mX8_bridge xm_L (xa_pR (.int (xa_b (xm_bridge nh ns S h net kd).1)) (xm_bridge nh ns S h net kd).2 xm_R)) 0 0 91 [some (.ref 130), some (.int h), some (.int net), some (.int kd), some (.int (nI x))] [] xm_L S xm_R := by
  refine xa_dn (fun x hxl ih => ?_)
  intro hno
  obtain ⟨w1, w2, w3, w4, w5⟩ := id hW
  have hb1 : xc h < nh := xa_in_lt hv1
  refine xa_iload (pc := 91) dX8_bridge_91 rfl ?_
  refine xa_bipush (pc := 93) (v := 16) dX8_bridge_93 (by decide) ?_
  refine xa_icmpN_ge (pc := 95) 121 x 16 dX8_bridge_95 (by decide) rfl rfl (by omega) (by omega) (fun h95 => ?_) (fun h95 => ?_)
  · have g95 : ¬ (x < 16) := by omega
    refine xa_iconst (pc := 121) (v := 0) dX8_bridge_121 (by decide) ?_
    refine xa_istore (pc := 122) dX8_bridge_122 (by decide) ?_
    have e2 := xa_any_no.mpr (show ∀ i, i < 16 → br_a S h i = false from fun i hi => hno i (by omega))
    exact xa_fgk (lm_br124 E S hW h net kd hb hv1 e1 e2 0 (Nat.zero_le _) (fun i hi => absurd hi (Nat.not_lt_zero i))) (And.intro rfl (And.intro rfl (And.intro rfl (And.intro rfl (And.intro rfl trivial)))))
  · refine xa_aload_n (pc := 98) dX8_bridge_98 rfl ?_
    refine xa_getA (pc := 99) 8 33 164 lfX8_104 dX8_bridge_99 xm_o rfl rfl rfl ?_
    refine xa_bipush (pc := 102) (v := 16) dX8_bridge_102 (by decide) ?_
    refine xa_iload_n (pc := 104) dX8_bridge_104 rfl ?_
    refine xa_imul (pc := 105) dX8_bridge_105 ?_
    refine xa_iload (pc := 106) dX8_bridge_106 rfl ?_
    refine xa_iadd (pc := 108) dX8_bridge_108 ?_
    refine xa_zaldN (pc := 109) ((16 * (xc h)) + x) dX8_bridge_109 xm_164 rfl (xa_pa (xa_pm rfl (xa_in_eq hv1)) rfl) (by show _ < 192; omega) (by decide) ?_
    refine xa_if_eq (pc := 110) 115 dX8_bridge_110 (by decide) (fun h110 => ?_) (fun h110 => ?_)
    · refine xa_iinc (pc := 115) (v := nI (x + 1)) dX8_bridge_115 rfl (by decide) (nI_1 _) ?_
      refine xa_goto (pc := 118) (tgt := 91) dX8_bridge_118 (by decide) ?_
      exact xa_fgk (ih (by omega) (fun i hi => by rcases Nat.lt_or_ge i x with c | c <;> first | exact hno i c | (have e : i = x := (by omega); subst e; simp [br_a, h110]))) (And.intro rfl (And.intro rfl (And.intro rfl (And.intro rfl (And.intro rfl trivial)))))
    · refine xa_iconst (pc := 113) (v := 0) dX8_bridge_113 (by decide) ?_
      rw [show xm_bridge nh ns S h net kd = _ from if_neg (fun c => by have q := xa_any_yes (p := br_a S h) (n := 16) (i := x) (by omega) (by simp [br_a, h110]); rw [c.2.2.1] at q; cases q)]
      exact xa_zret dX8_bridge_114 rfl (by decide) ⟨rfl, rfl, rfl⟩
set_option maxHeartbeats 4000000 in
theorem lm_br60 (E : xa_EV) (S : xa_AH) {nh ns : Nat} (hW : xm_wf nh ns S) (h net kd : Int32) (hb : xm_brc nh S h net kd = true) (hv1 : vp_in h nh)  : ∀ x, x ≤ ns → (∀ i, i < x → br_s S h i = false) → xa_W E mX8_bridge (xa_Z E mX8_bridge xm_L (xa_pR (.int (xa_b (xm_bridge nh ns S h net kd).1)) (xm_bridge nh ns S h net kd).2 xm_R)) 0 0 60 [some (.ref 130), some (.int h), some (.int net), some (.int kd), some (.int (nI x))] [] xm_L S xm_R := by
  refine xa_dn (fun x hxl ih => ?_)
  intro hno
  obtain ⟨w1, w2, w3, w4, w5⟩ := id hW
  have hb1 : xc h < nh := xa_in_lt hv1
  refine xa_iload (pc := 60) dX8_bridge_60 rfl ?_
  refine xa_aload_n (pc := 62) dX8_bridge_62 rfl ?_
  refine xa_getI (pc := 63) 8 26 lfX8_170 dX8_bridge_63 xm_o rfl rfl ?_
  refine xa_icmpN_ge (pc := 66) 88 x ns dX8_bridge_66 (by decide) rfl w4 (by omega) (by omega) (fun h66 => ?_) (fun h66 => ?_)
  · have g66 : ¬ (x < ns) := by omega
    refine xa_iconst (pc := 88) (v := 0) dX8_bridge_88 (by decide) ?_
    refine xa_istore (pc := 89) dX8_bridge_89 (by decide) ?_
    have e1 := xa_any_no.mpr (show ∀ i, i < ns → br_s S h i = false from fun i hi => hno i (by omega))
    exact xa_fgk (lm_br91 E S hW h net kd hb hv1 e1 0 (Nat.zero_le _) (fun i hi => absurd hi (Nat.not_lt_zero i))) (And.intro rfl (And.intro rfl (And.intro rfl (And.intro rfl (And.intro rfl trivial)))))
  · refine xa_aload_n (pc := 69) dX8_bridge_69 rfl ?_
    refine xa_getA (pc := 70) 8 15 146 lfX8_53 dX8_bridge_70 xm_o rfl rfl rfl ?_
    refine xa_iload (pc := 73) dX8_bridge_73 rfl ?_
    refine xa_ialdN (pc := 75) x dX8_bridge_75 xm_146 rfl rfl (by show _ < 32; omega) (by decide) ?_
    refine xa_iload_n (pc := 76) dX8_bridge_76 rfl ?_
    refine xa_icmp_ne (pc := 77) 82 dX8_bridge_77 (by decide) (fun h77 => ?_) (fun h77 => ?_)
    · refine xa_iinc (pc := 82) (v := nI (x + 1)) dX8_bridge_82 rfl (by decide) (nI_1 _) ?_
      refine xa_goto (pc := 85) (tgt := 60) dX8_bridge_85 (by decide) ?_
      exact xa_fgk (ih (by omega) (fun i hi => by rcases Nat.lt_or_ge i x with c | c <;> first | exact hno i c | (have e : i = x := (by omega); subst e; simp [br_s, h77]))) (And.intro rfl (And.intro rfl (And.intro rfl (And.intro rfl (And.intro rfl trivial)))))
    · refine xa_iconst (pc := 80) (v := 0) dX8_bridge_80 (by decide) ?_
      rw [show xm_bridge nh ns S h net kd = _ from if_neg (fun c => by have q := xa_any_yes (p := br_s S h) (n := ns) (i := x) (by omega) (by simp [br_s, h77]); rw [c.2.1] at q; cases q)]
      exact xa_zret dX8_bridge_81 rfl (by decide) ⟨rfl, rfl, rfl⟩
theorem up_A {nh : Nat} {S : xa_AH} {h : Int32} (g : xm_up nh S h = true) : xm_aw nh S h = true := by
  unfold xm_up at g; cases e : xm_aw nh S h
  · rw [e] at g; cases g
  · rfl
theorem aw_H {nh : Nat} {S : xa_AH} {h : Int32} (g : xm_aw nh S h = true) : xm_isH nh h = true := by
  unfold xm_aw at g; cases e : xm_isH nh h
  · rw [e] at g; cases g
  · rfl
set_option maxHeartbeats 4000000 in
theorem cm_bridge (E : xa_EV) (S : xa_AH) {nh ns : Nat} (hW : xm_wf nh ns S) (h net kd : Int32) : xa_Ct E mX8_bridge [.ref 130, .int h, .int net, .int kd] xm_L S xm_R (xa_pR (.int (xa_b (xm_bridge nh ns S h net kd).1)) (xm_bridge nh ns S h net kd).2 xm_R) := by
  refine xa_Ct.of [some (.ref 130), some (.int h), some (.int net), some (.int kd), none] rfl (Nat.le_of_ble_eq_true rfl) (by simp [Value.category]) rfl ?_
  obtain ⟨w1, w2, w3, w4, w5⟩ := id hW
  refine xa_aload_n (pc := 0) dX8_bridge_0 rfl ?_
  refine xa_iload_n (pc := 1) dX8_bridge_1 rfl ?_
  refine xa_callV (pc := 2) xm_o rfl rfl lcX8_173 dX8_bridge_2 (cm_isUp E _ hW _) rfl rfl (by decide) (Nat.le_of_ble_eq_true rfl) (by decide) ?_
  rintro _ _ _ ⟨rfl, rfl, rfl⟩
  refine xa_if_eq (pc := 5) 55 dX8_bridge_5 (by decide) (fun h5 => ?_) (fun h5 => ?_)
  · have h5 := xa_b_0.mp h5
    refine xa_iconst (pc := 55) (v := 0) dX8_bridge_55 (by decide) ?_
    rw [show xm_bridge nh ns S h net kd = _ from if_neg (fun c => by have q := c.1; simp [xm_brc, h5] at q)]
    exact xa_zret dX8_bridge_56 rfl (by decide) ⟨rfl, rfl, rfl⟩
  · have h5 := xa_b_n0.mp h5
    refine xa_iload_n (pc := 8) dX8_bridge_8 rfl ?_
    refine xa_iconst (pc := 9) (v := 0) dX8_bridge_9 (by decide) ?_
    refine xa_iconst (pc := 10) (v := 3) dX8_bridge_10 (by decide) ?_
    refine xa_callS (pc := 11) lcX8_159 dX8_bridge_11 (cm_in E _ _ _ _ _ _) rfl rfl (by decide) (Nat.le_of_ble_eq_true rfl) (by decide) ?_
    rintro _ _ _ ⟨rfl, rfl, rfl⟩
    refine xa_if_eq (pc := 14) 55 dX8_bridge_14 (by decide) (fun h14 => ?_) (fun h14 => ?_)
    · have h14 := xa_b_0.mp h14
      refine xa_iconst (pc := 55) (v := 0) dX8_bridge_55 (by decide) ?_
      rw [show xm_bridge nh ns S h net kd = _ from if_neg (fun c => by have q := c.1; simp [xm_brc, h5, h14] at q)]
      exact xa_zret dX8_bridge_56 rfl (by decide) ⟨rfl, rfl, rfl⟩
    · have h14 := xa_b_n0.mp h14
      refine xa_iload_n (pc := 17) dX8_bridge_17 rfl ?_
      have hv1 := (xm_isH_t (by omega)).mp (aw_H (up_A h5))
      have hb1 : xc h < nh := xa_in_lt hv1
      refine xa_aload_n (pc := 18) dX8_bridge_18 rfl ?_
      refine xa_getA (pc := 19) 8 0 131 lfX8_9 dX8_bridge_19 xm_o rfl rfl rfl ?_
      refine xa_iload_n (pc := 22) dX8_bridge_22 rfl ?_
      refine xa_ialdN (pc := 23) (xc h) dX8_bridge_23 xm_131 rfl (xa_in_eq hv1) (by show _ < 12; omega) (by decide) ?_
      refine xa_icmp_eq (pc := 24) 55 dX8_bridge_24 (by decide) (fun h24 => ?_) (fun h24 => ?_)
      · refine xa_iconst (pc := 55) (v := 0) dX8_bridge_55 (by decide) ?_
        rw [show xm_bridge nh ns S h net kd = _ from if_neg (fun c => by have q := c.1; simp [xm_brc, h5, h14, h24] at q)]
        exact xa_zret dX8_bridge_56 rfl (by decide) ⟨rfl, rfl, rfl⟩
      · refine xa_iload_n (pc := 27) dX8_bridge_27 rfl ?_
        refine xa_iconst (pc := 28) (v := 0) dX8_bridge_28 (by decide) ?_
        refine xa_ldc (pc := 29) dX8_bridge_29 lkX8_224 ?_
        refine xa_callS (pc := 31) lcX8_159 dX8_bridge_31 (cm_in E _ _ _ _ _ _) rfl rfl (by decide) (Nat.le_of_ble_eq_true rfl) (by decide) ?_
        rintro _ _ _ ⟨rfl, rfl, rfl⟩
        refine xa_if_eq (pc := 34) 55 dX8_bridge_34 (by decide) (fun h34 => ?_) (fun h34 => ?_)
        · have h34 := xa_b_0.mp h34
          refine xa_iconst (pc := 55) (v := 0) dX8_bridge_55 (by decide) ?_
          rw [show xm_bridge nh ns S h net kd = _ from if_neg (fun c => by have q := c.1; simp [xm_brc, h5, h14, h24, h34] at q)]
          exact xa_zret dX8_bridge_56 rfl (by decide) ⟨rfl, rfl, rfl⟩
        · have h34 := xa_b_n0.mp h34
          refine xa_aload_n (pc := 37) dX8_bridge_37 rfl ?_
          refine xa_getA (pc := 38) 8 8 139 lfX8_35 dX8_bridge_38 xm_o rfl rfl rfl ?_
          refine xa_iload_n (pc := 41) dX8_bridge_41 rfl ?_
          refine xa_zaldN (pc := 42) (xc h) dX8_bridge_42 xm_139 rfl (xa_in_eq hv1) (by show _ < 12; omega) (by decide) ?_
          refine xa_if_ne (pc := 43) 55 dX8_bridge_43 (by decide) (fun h43 => ?_) (fun h43 => ?_)
          · refine xa_iconst (pc := 55) (v := 0) dX8_bridge_55 (by decide) ?_
            rw [show xm_bridge nh ns S h net kd = _ from if_neg (fun c => by have q := c.1; simp [xm_brc, h5, h14, h24, h34, h43] at q)]
            exact xa_zret dX8_bridge_56 rfl (by decide) ⟨rfl, rfl, rfl⟩
          · refine xa_aload_n (pc := 46) dX8_bridge_46 rfl ?_
            refine xa_getA (pc := 47) 8 7 138 lfX8_32 dX8_bridge_47 xm_o rfl rfl rfl ?_
            refine xa_iload_n (pc := 50) dX8_bridge_50 rfl ?_
            refine xa_zaldN (pc := 51) (xc h) dX8_bridge_51 xm_138 rfl (xa_in_eq hv1) (by show _ < 12; omega) (by decide) ?_
            refine xa_if_eq (pc := 52) 57 dX8_bridge_52 (by decide) (fun h52 => ?_) (fun h52 => ?_)
            · refine xa_iconst (pc := 57) (v := 0) dX8_bridge_57 (by decide) ?_
              refine xa_istore (pc := 58) dX8_bridge_58 (by decide) ?_
              exact lm_br60 E S hW h net kd (by simp [xm_brc, h5, h14, h24, h34, h43, h52]) hv1 0 (Nat.zero_le _) (fun i hi => absurd hi (Nat.not_lt_zero i))
            · refine xa_iconst (pc := 55) (v := 0) dX8_bridge_55 (by decide) ?_
              rw [show xm_bridge nh ns S h net kd = _ from if_neg (fun c => by have q := c.1; simp [xm_brc, h5, h14, h24, h34, h43, h52] at q)]
              exact xa_zret dX8_bridge_56 rfl (by decide) ⟨rfl, rfl, rfl⟩
