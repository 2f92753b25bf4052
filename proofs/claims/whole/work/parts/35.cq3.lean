set_option maxHeartbeats 4000000 in
theorem lx_knownTo (E : xa_EV) {L : List Nat} {T : xa_AH} {R : xa_AR} {nh ns k : Nat} {pw : Nat → Nat} {S : xa_AH} (hX : RX nh ns k pw L T R S) {h : Nat} (hh : h < nh) (kd : Int32) : ∀ x, x ≤ ns → xa_W E mX7_knownTo (xa_Z E mX7_knownTo L (xa_pR (.int (xm_kn ns S h kd (S 130 36))) T R)) 0 0 5 [some (.ref (ci 0 129)), some (.ref (ci h 0)), some (.int kd), some (.int (xm_bits (xm_kp S h kd (S 130 36)) x)), some (.int (nI x))] [] L T R := by
  have n12 := hX.n12
  have n32 := hX.n32
  refine xa_dn (fun x hx ih => ?_)
  refine xa_iload (pc := 5) dX7_knownTo_5 rfl ?_
  refine xa_aload_n (pc := 7) dX7_knownTo_7 rfl ?_
  refine xa_getIv (pc := 8) 7 3 _ lfX7_103 dX7_knownTo_8 hX.c_m129 (kd_129 _) rfl hX.g_ns ?_
  refine xa_icmpN_ge (pc := 11) 57 x ns dX7_knownTo_11 (by decide) rfl rfl (by omega) (by omega) (fun h11 => ?_) (fun h11 => ?_)
  · have g11 : ¬ (x < ns) := by omega
    refine xa_iload_n (pc := 57) dX7_knownTo_57 rfl ?_
    have ex : x = ns := by omega
    subst ex
    exact xa_zret dX7_knownTo_58 rfl rfl ⟨rfl, rfl, rfl⟩
  · refine xa_aload_n (pc := 14) dX7_knownTo_14 rfl ?_
    refine xa_getA (pc := 15) 7 1 (ci 0 127) lfX7_17 dX7_knownTo_15 hX.c_m129 (kd_129 _) rfl hX.c_r1 ?_
    refine xa_iload (pc := 18) dX7_knownTo_18 rfl ?_
    refine xa_aaldS (pc := 20) x (ci x 128) dX7_knownTo_20 hX.c_m127 rfl (by omega) (hX.sA (by omega)) ?_
    refine xa_getIv (pc := 21) 5 2 _ lfX7_268 dX7_knownTo_21 (hX.sM (by omega)) (kd_128 _) rfl (hX.s_kind (by omega)) ?_
    refine xa_iload_n (pc := 24) dX7_knownTo_24 rfl ?_
    refine xa_icmp_ne (pc := 25) 51 dX7_knownTo_25 (by decide) (fun h25 => ?_) (fun h25 => ?_)
    · refine xa_iinc (pc := 51) (v := nI (x + 1)) dX7_knownTo_51 rfl (by decide) (nI_1 _) ?_
      refine xa_goto (pc := 54) (tgt := 5) dX7_knownTo_54 (by decide) ?_
      exact xa_fgk (ih (by omega)) (And.intro rfl (And.intro rfl (And.intro rfl (And.intro (xm_bits_n (q := (xm_kp S h kd (S 130 36))) (by simp [xm_kp, h11, h25])) (And.intro rfl trivial)))))
    · refine xa_aload_n (pc := 28) dX7_knownTo_28 rfl ?_
      refine xa_getA (pc := 29) 3 4 (ci h 1) lfX7_134 dX7_knownTo_29 ((hX.hS hh).1 0 (by decide)) (kd_0 _) rfl ((hX.hS hh).2 (0, 4, 1) (by decide)) ?_
      refine xa_iload (pc := 32) dX7_knownTo_32 rfl ?_
      refine xa_aload_n (pc := 34) dX7_knownTo_34 rfl ?_
      refine xa_getIv (pc := 35) 7 4 _ lfX7_62 dX7_knownTo_35 hX.c_m129 (kd_129 _) rfl hX.g_now ?_
      refine xa_callV (pc := 38) ((hX.hS hh).1 1 (by decide)) (kd_1 _) rfl lcX7_437 dX7_knownTo_38 (rq_isFresh E hX hh (s := x) rfl (by omega) _) rfl rfl (by decide) (Nat.le_of_ble_eq_true rfl) (by decide) ?_
      rintro _ _ _ ⟨rfl, rfl, rfl⟩
      refine xa_if_eq (pc := 41) 51 dX7_knownTo_41 (by decide) (fun h41 => ?_) (fun h41 => ?_)
      · have h41 := xa_b_0.mp h41
        refine xa_iinc (pc := 51) (v := nI (x + 1)) dX7_knownTo_51 rfl (by decide) (nI_1 _) ?_
        refine xa_goto (pc := 54) (tgt := 5) dX7_knownTo_54 (by decide) ?_
        exact xa_fgk (ih (by omega)) (And.intro rfl (And.intro rfl (And.intro rfl (And.intro (xm_bits_n (q := (xm_kp S h kd (S 130 36))) (by simp [xm_kp, h11, h25]; simpa using h41)) (And.intro rfl trivial)))))
      · have h41 := xa_b_n0.mp h41
        refine xa_iload_n (pc := 44) dX7_knownTo_44 rfl ?_
        refine xa_iconst (pc := 45) (v := 1) dX7_knownTo_45 (by decide) ?_
        refine xa_iload (pc := 46) dX7_knownTo_46 rfl ?_
        refine xa_ishl (pc := 48) dX7_knownTo_48 ?_
        refine xa_ior (pc := 49) dX7_knownTo_49 ?_
        refine xa_istore_n (pc := 50) dX7_knownTo_50 (by decide) ?_
        refine xa_iinc (pc := 51) (v := nI (x + 1)) dX7_knownTo_51 rfl (by decide) (nI_1 _) ?_
        refine xa_goto (pc := 54) (tgt := 5) dX7_knownTo_54 (by decide) ?_
        exact xa_fgk (ih (by omega)) (And.intro rfl (And.intro rfl (And.intro rfl (And.intro (xm_bits_y (q := (xm_kp S h kd (S 130 36))) (by simp [xm_kp, h11, h25]; simpa using h41)) (And.intro rfl trivial)))))
set_option maxHeartbeats 4000000 in
theorem cx_knownTo (E : xa_EV) {L : List Nat} {T : xa_AH} {R : xa_AR} {nh ns k : Nat} {pw : Nat → Nat} {S : xa_AH} (hX : RX nh ns k pw L T R S) {h : Nat} (hh : h < nh) (kd : Int32) : xa_Ct E mX7_knownTo [.ref (ci 0 129), .ref (ci h 0), .int kd] L T R (xa_pR (.int (xm_kn ns S h kd (S 130 36))) T R) := by
  refine xa_Ct.of [some (.ref (ci 0 129)), some (.ref (ci h 0)), some (.int kd), none, none] rfl (Nat.le_of_ble_eq_true rfl) (by simp [Value.category]) rfl ?_
  have n12 := hX.n12
  have n32 := hX.n32
  refine xa_iconst (pc := 0) (v := 0) dX7_knownTo_0 (by decide) ?_
  refine xa_istore_n (pc := 1) dX7_knownTo_1 (by decide) ?_
  refine xa_iconst (pc := 2) (v := 0) dX7_knownTo_2 (by decide) ?_
  refine xa_istore (pc := 3) dX7_knownTo_3 (by decide) ?_
  exact lx_knownTo E hX hh kd 0 (Nat.zero_le _)
def cq_lk (nh : Nat) (S : xa_AH) (net : Int32) (w : Nat) (T : xa_AH) (R : xa_AR) : Option Value → xa_AH → xa_AR → Prop := fun r h1 h2 => ((∃ j, j < nh ∧ xm_first (xm_kep S net (nI w)) nh = nI j ∧ some (.ref (ci j 0)) = r) ∨ (xm_first (xm_kep S net (nI w)) nh = -1 ∧ some .null = r)) ∧ T = h1 ∧ R = h2
theorem xm_first_at {q : Nat → Bool} {x n : Nat} (hx : x < n) (hn : n < 100) (h : ∀ i, i < x → q i = false) (hq : q x = true) : xm_first q n = nI x := by
  induction n with
  | zero => omega
  | succ n ih =>
    rw [xm_first]
    by_cases e : x = n
    · subst e
      rw [xm_first_no h, if_pos ⟨rfl, hq⟩]
    · have e1 := ih (by omega) (by omega)
      rw [e1, if_neg]
      rintro ⟨g, -⟩
      have e2 : (nI x).toInt = (x : Int) := nI_toInt (by omega)
      rw [g] at e2
      have e3 : (-1 : Int32).toInt = -1 := rfl
      rw [e3] at e2; omega
set_option maxHeartbeats 4000000 in
theorem lx_leastKeeperOn (E : xa_EV) {L : List Nat} {T : xa_AH} {R : xa_AR} {nh ns k : Nat} {pw : Nat → Nat} {S : xa_AH} (hX : RX nh ns k pw L T R S) (hnl : ∀ i, i < nh → S 137 i = 0) (net : Int32) {w : Nat} (hww : w < nh) : ∀ x, x ≤ nh → (∀ i, i < x → (xm_kep S net (nI w)) i = false) → xa_W E mX7_leastKeeperOn (xa_Z E mX7_leastKeeperOn L (cq_lk nh S net w T R)) 0 0 2 [some (.ref (ci 0 129)), some (.int net), some (.ref (ci w 0)), some (.int (nI x)), none] [] L T R := by
  have n12 := hX.n12
  have n32 := hX.n32
  refine xa_dn (fun x hx ih => ?_)
  intro hno
  refine xa_iload_n (pc := 2) dX7_leastKeeperOn_2 rfl ?_
  refine xa_aload_n (pc := 3) dX7_leastKeeperOn_3 rfl ?_
  refine xa_getIv (pc := 4) 7 2 _ lfX7_25 dX7_leastKeeperOn_4 hX.c_m129 (kd_129 _) rfl hX.g_nh ?_
  refine xa_icmpN_ge (pc := 7) 59 x nh dX7_leastKeeperOn_7 (by decide) rfl rfl (by omega) (by omega) (fun h7 => ?_) (fun h7 => ?_)
  · have g7 : ¬ (x < nh) := by omega
    refine xa_null (pc := 59) dX7_leastKeeperOn_59 ?_
    exact xa_aret none dX7_leastKeeperOn_60 rfl ⟨Or.inr ⟨xm_first_no (fun i hi => hno i (by omega)), rfl⟩, rfl, rfl⟩
  · have x0 : S 136 x = xs S x := by rw [xs, if_pos (hnl x (by omega))]
    have hw : (nI x = nI w) = (x = w) := propext (nI_eq (by omega) (by omega))
    refine xa_aload_n (pc := 10) dX7_leastKeeperOn_10 rfl ?_
    refine xa_getA (pc := 11) 7 0 (ci 0 126) lfX7_11 dX7_leastKeeperOn_11 hX.c_m129 (kd_129 _) rfl hX.c_r0 ?_
    refine xa_iload_n (pc := 14) dX7_leastKeeperOn_14 rfl ?_
    refine xa_aaldH (pc := 15) x (ci x 0) dX7_leastKeeperOn_15 hX.c_m126 rfl (by omega) (hX.hA (by omega)) ?_
    refine xa_astore (pc := 16) dX7_leastKeeperOn_16 (by decide) ?_
    refine xa_aload (pc := 18) dX7_leastKeeperOn_18 rfl ?_
    refine xa_getIv (pc := 20) 3 9 _ lfX7_91 dX7_leastKeeperOn_20 ((hX.hS (by omega)).1 0 (by decide)) (kd_0 _) rfl (hX.h_isKeeper (by omega)) ?_
    refine xa_if_eq (pc := 23) 53 dX7_leastKeeperOn_23 (by decide) (fun h23 => ?_) (fun h23 => ?_)
    · refine xa_iinc (pc := 53) (v := nI (x + 1)) dX7_leastKeeperOn_53 rfl (by decide) (nI_1 _) ?_
      refine xa_goto (pc := 56) (tgt := 2) dX7_leastKeeperOn_56 (by decide) ?_
      exact xa_fgk (ih (by omega) (xa_no_s hno (by simp [xm_kep, hw, x0, h7, h23]))) (And.intro rfl (And.intro rfl (And.intro rfl (And.intro rfl trivial))))
    · refine xa_aload (pc := 26) dX7_leastKeeperOn_26 rfl ?_
      refine xa_aload_n (pc := 28) dX7_leastKeeperOn_28 rfl ?_
      refine xa_acmpC_eq (pc := 29) 53 (x := (ci x 0)) (y := (ci w 0)) dX7_leastKeeperOn_29 (by decide) ((hX.hS (by omega)).1 0 (by decide)) ((hX.hS hww).1 0 (by decide)) (fun h29 => ?_) (fun h29 => ?_)
      · have h29 := ci_i.mp h29
        refine xa_iinc (pc := 53) (v := nI (x + 1)) dX7_leastKeeperOn_53 rfl (by decide) (nI_1 _) ?_
        refine xa_goto (pc := 56) (tgt := 2) dX7_leastKeeperOn_56 (by decide) ?_
        exact xa_fgk (ih (by omega) (xa_no_s hno (by simp [xm_kep, hw, x0, h7, h23, h29]))) (And.intro rfl (And.intro rfl (And.intro rfl (And.intro rfl trivial))))
      · have h29 : ¬ (x = w) := fun q => h29 (ci_i.mpr q)
        refine xa_aload (pc := 32) dX7_leastKeeperOn_32 rfl ?_
        refine xa_getIv (pc := 34) 3 8 _ lfX7_95 dX7_leastKeeperOn_34 ((hX.hS (by omega)).1 0 (by decide)) (kd_0 _) rfl (hX.h_state (by omega)) ?_
        refine xa_iconst (pc := 37) (v := 2) dX7_leastKeeperOn_37 (by decide) ?_
        refine xa_icmp_ne (pc := 38) 53 dX7_leastKeeperOn_38 (by decide) (fun h38 => ?_) (fun h38 => ?_)
        · refine xa_iinc (pc := 53) (v := nI (x + 1)) dX7_leastKeeperOn_53 rfl (by decide) (nI_1 _) ?_
          refine xa_goto (pc := 56) (tgt := 2) dX7_leastKeeperOn_56 (by decide) ?_
          exact xa_fgk (ih (by omega) (xa_no_s hno (by simp [xm_kep, hw, x0, h7, h23, h29, h38]))) (And.intro rfl (And.intro rfl (And.intro rfl (And.intro rfl trivial))))
        · refine xa_aload (pc := 41) dX7_leastKeeperOn_41 rfl ?_
          refine xa_getIv (pc := 43) 3 7 _ lfX7_88 dX7_leastKeeperOn_43 ((hX.hS (by omega)).1 0 (by decide)) (kd_0 _) rfl (hX.h_net (by omega)) ?_
          refine xa_iload_n (pc := 46) dX7_leastKeeperOn_46 rfl ?_
          refine xa_icmp_ne (pc := 47) 53 dX7_leastKeeperOn_47 (by decide) (fun h47 => ?_) (fun h47 => ?_)
          · refine xa_iinc (pc := 53) (v := nI (x + 1)) dX7_leastKeeperOn_53 rfl (by decide) (nI_1 _) ?_
            refine xa_goto (pc := 56) (tgt := 2) dX7_leastKeeperOn_56 (by decide) ?_
            exact xa_fgk (ih (by omega) (xa_no_s hno (by simp [xm_kep, hw, x0, h7, h23, h29, h38, h47]))) (And.intro rfl (And.intro rfl (And.intro rfl (And.intro rfl trivial))))
          · refine xa_aload (pc := 50) dX7_leastKeeperOn_50 rfl ?_
            exact xa_aret (some (ci x 0)) dX7_leastKeeperOn_52 rfl ⟨Or.inl ⟨x, by omega, xm_first_at (by omega) (by omega) hno (by simp [xm_kep, hw, x0, h7, h23, h29, h38, h47]), rfl⟩, rfl, rfl⟩
set_option maxHeartbeats 4000000 in
theorem cx_leastKeeperOn (E : xa_EV) {L : List Nat} {T : xa_AH} {R : xa_AR} {nh ns k : Nat} {pw : Nat → Nat} {S : xa_AH} (hX : RX nh ns k pw L T R S) (hnl : ∀ i, i < nh → S 137 i = 0) (net : Int32) {w : Nat} (hww : w < nh) : xa_Ct E mX7_leastKeeperOn [.ref (ci 0 129), .int net, .ref (ci w 0)] L T R (cq_lk nh S net w T R) := by
  refine xa_Ct.of [some (.ref (ci 0 129)), some (.int net), some (.ref (ci w 0)), none, none] rfl (Nat.le_of_ble_eq_true rfl) (by simp [Value.category]) rfl ?_
  have n12 := hX.n12
  have n32 := hX.n32
  refine xa_iconst (pc := 0) (v := 0) dX7_leastKeeperOn_0 (by decide) ?_
  refine xa_istore_n (pc := 1) dX7_leastKeeperOn_1 (by decide) ?_
  exact lx_leastKeeperOn E hX hnl net hww 0 (Nat.zero_le _) (fun i hi => absurd hi (Nat.not_lt_zero i))
def cq_or (ns : Nat) (S : xa_AH) (h s : Nat) (n : Int32) (T : xa_AH) (R : xa_AR) : Option Value → xa_AH → xa_AR → Prop := fun r h1 h2 => ((∃ x, x < ns ∧ (¬ x = s ∧ ¬ S 158 (32 * h + x) = 0 ∧ S 159 (32 * h + x) = n) ∧ some (.ref (ci x 128)) = r) ∨ ((∀ x, x < ns → ¬ (¬ x = s ∧ ¬ S 158 (32 * h + x) = 0 ∧ S 159 (32 * h + x) = n)) ∧ some .null = r)) ∧ T = h1 ∧ R = h2
def cq_op (S : xa_AH) (h s : Nat) (n : Int32) (x : Nat) : Bool := !decide (x = s) && (decide (¬ S 158 (32 * h + x) = 0) && decide (S 159 (32 * h + x) = n))
set_option maxHeartbeats 4000000 in
theorem lx_otherRecorded (E : xa_EV) {L : List Nat} {T : xa_AH} {R : xa_AR} {nh ns k : Nat} {pw : Nat → Nat} {S : xa_AH} (hX : RX nh ns k pw L T R S) {h s : Nat} (hh : h < nh) (hs : s < ns) (n : Int32) : ∀ x, x ≤ ns → (∀ i, i < x → cq_op S h s n i = false) → xa_W E mX7_otherRecorded (xa_Z E mX7_otherRecorded L (cq_or ns S h s n T R)) 0 0 3 [some (.ref (ci 0 129)), some (.ref (ci h 1)), some (.ref (ci s 128)), some (.int n), some (.int (nI x))] [] L T R := by
  have n12 := hX.n12
  have n32 := hX.n32
  refine xa_dn (fun x hx ih => ?_)
  intro hno
  refine xa_iload (pc := 3) dX7_otherRecorded_3 rfl ?_
  refine xa_aload_n (pc := 5) dX7_otherRecorded_5 rfl ?_
  refine xa_getIv (pc := 6) 7 3 _ lfX7_103 dX7_otherRecorded_6 hX.c_m129 (kd_129 _) rfl hX.g_ns ?_
  refine xa_icmpN_ge (pc := 9) 55 x ns dX7_otherRecorded_9 (by decide) rfl rfl (by omega) (by omega) (fun h9 => ?_) (fun h9 => ?_)
  · have g9 : ¬ (x < ns) := by omega
    refine xa_null (pc := 55) dX7_otherRecorded_55 ?_
    exact xa_aret none dX7_otherRecorded_56 rfl ⟨Or.inr ⟨fun i hi => by have := hno i (by omega); simp [cq_op] at this; rintro ⟨g1, g2, g3⟩; exact this g1 g2 g3, rfl⟩, rfl, rfl⟩
  · refine xa_aload_n (pc := 12) dX7_otherRecorded_12 rfl ?_
    refine xa_getA (pc := 13) 6 0 (ci h 2) lfX7_184 dX7_otherRecorded_13 ((hX.hS hh).1 1 (by decide)) (kd_1 _) rfl ((hX.hS hh).2 (1, 0, 2) (by decide)) ?_
    refine xa_iload (pc := 16) dX7_otherRecorded_16 rfl ?_
    refine xa_ialdC (pc := 18) x _ dX7_otherRecorded_18 ((hX.hS hh).1 2 (by decide)) (kd_2 _) (ln_2 _) rfl (by omega) (by decide) (hX.r_name hh (by omega)) ?_
    refine xa_iload_n (pc := 19) dX7_otherRecorded_19 rfl ?_
    refine xa_icmp_ne (pc := 20) 49 dX7_otherRecorded_20 (by decide) (fun h20 => ?_) (fun h20 => ?_)
    · refine xa_iinc (pc := 49) (v := nI (x + 1)) dX7_otherRecorded_49 rfl (by decide) (nI_1 _) ?_
      refine xa_goto (pc := 52) (tgt := 3) dX7_otherRecorded_52 (by decide) ?_
      exact xa_fgk (ih (by omega) (xa_no_s hno (by simp [cq_op, h9, h20]))) (And.intro rfl (And.intro rfl (And.intro rfl (And.intro rfl (And.intro rfl trivial)))))
    · refine xa_iload (pc := 23) dX7_otherRecorded_23 rfl ?_
      refine xa_aload_n (pc := 25) dX7_otherRecorded_25 rfl ?_
      refine xa_getIv (pc := 26) 5 0 _ lfX7_264 dX7_otherRecorded_26 (hX.sM hs) (kd_128 _) rfl (hX.s_number hs) ?_
      refine xa_icmpN_eq (pc := 29) 49 x s dX7_otherRecorded_29 (by decide) rfl rfl (by omega) (by omega) (fun h29 => ?_) (fun h29 => ?_)
      · refine xa_iinc (pc := 49) (v := nI (x + 1)) dX7_otherRecorded_49 rfl (by decide) (nI_1 _) ?_
        refine xa_goto (pc := 52) (tgt := 3) dX7_otherRecorded_52 (by decide) ?_
        exact xa_fgk (ih (by omega) (xa_no_s hno (by simp [cq_op, h9, h20, h29]))) (And.intro rfl (And.intro rfl (And.intro rfl (And.intro rfl (And.intro rfl trivial)))))
      · refine xa_aload_n (pc := 32) dX7_otherRecorded_32 rfl ?_
        refine xa_iload (pc := 33) dX7_otherRecorded_33 rfl ?_
        refine xa_callV (pc := 35) ((hX.hS hh).1 1 (by decide)) (kd_1 _) rfl lcX7_191 dX7_otherRecorded_35 (rq_has E hX hh (s := x) rfl (by omega)) rfl rfl (by decide) (Nat.le_of_ble_eq_true rfl) (by decide) ?_
        rintro _ _ _ ⟨rfl, rfl, rfl⟩
        refine xa_if_eq (pc := 38) 49 dX7_otherRecorded_38 (by decide) (fun h38 => ?_) (fun h38 => ?_)
        · have h38 := xa_b_0.mp h38
          refine xa_iinc (pc := 49) (v := nI (x + 1)) dX7_otherRecorded_49 rfl (by decide) (nI_1 _) ?_
          refine xa_goto (pc := 52) (tgt := 3) dX7_otherRecorded_52 (by decide) ?_
          exact xa_fgk (ih (by omega) (xa_no_s hno (by simp [cq_op, h9, h20, h29, h38]))) (And.intro rfl (And.intro rfl (And.intro rfl (And.intro rfl (And.intro rfl trivial)))))
        · have h38 := xa_b_n0.mp h38
          refine xa_aload_n (pc := 41) dX7_otherRecorded_41 rfl ?_
          refine xa_getA (pc := 42) 7 1 (ci 0 127) lfX7_17 dX7_otherRecorded_42 hX.c_m129 (kd_129 _) rfl hX.c_r1 ?_
          refine xa_iload (pc := 45) dX7_otherRecorded_45 rfl ?_
          refine xa_aaldS (pc := 47) x (ci x 128) dX7_otherRecorded_47 hX.c_m127 rfl (by omega) (hX.sA (by omega)) ?_
          exact xa_aret (some (ci x 128)) dX7_otherRecorded_48 rfl ⟨Or.inl ⟨x, by omega, ⟨h29, by simpa using h38, h20⟩, rfl⟩, rfl, rfl⟩
set_option maxHeartbeats 4000000 in
theorem cx_otherRecorded (E : xa_EV) {L : List Nat} {T : xa_AH} {R : xa_AR} {nh ns k : Nat} {pw : Nat → Nat} {S : xa_AH} (hX : RX nh ns k pw L T R S) {h s : Nat} (hh : h < nh) (hs : s < ns) (n : Int32) : xa_Ct E mX7_otherRecorded [.ref (ci 0 129), .ref (ci h 1), .ref (ci s 128), .int n] L T R (cq_or ns S h s n T R) := by
  refine xa_Ct.of [some (.ref (ci 0 129)), some (.ref (ci h 1)), some (.ref (ci s 128)), some (.int n), none] rfl (Nat.le_of_ble_eq_true rfl) (by simp [Value.category]) rfl ?_
  have n12 := hX.n12
  have n32 := hX.n32
  refine xa_iconst (pc := 0) (v := 0) dX7_otherRecorded_0 (by decide) ?_
  refine xa_istore (pc := 1) dX7_otherRecorded_1 (by decide) ?_
  exact lx_otherRecorded E hX hh hs n 0 (Nat.zero_le _) (fun i hi => absurd hi (Nat.not_lt_zero i))
def cq_ca (S : xa_AH) (h s : Nat) (m : Int32) : Bool := if xm_spk S h s = true then decide (S 151 s = 2) && decide (S 149 s &&& m = m) else decide (¬ S 138 h = 0) && (decide (¬ S 158 (32 * h + s) = 0) && decide (S 160 (32 * h + s) &&& m = m))
set_option maxHeartbeats 4000000 in
theorem cx_canAnswer (E : xa_EV) {L : List Nat} {T : xa_AH} {R : xa_AR} {nh ns k : Nat} {pw : Nat → Nat} {S : xa_AH} (hX : RX nh ns k pw L T R S) {h : Nat} (hh : h < nh) (ha : S 136 h = 2) {s : Nat} {xs : Int32} (es : xs = nI s) (hs : s < ns) (m : Int32) : xa_Ct E mX7_canAnswer [.ref (ci 0 129), .ref (ci h 0), .int xs, .int m] L T R (xa_pR (.int (xa_b (cq_ca S h s m))) T R) := by
  subst es
  refine xa_Ct.of [some (.ref (ci 0 129)), some (.ref (ci h 0)), some (.int (nI s)), some (.int m), none] rfl (Nat.le_of_ble_eq_true rfl) (by simp [Value.category]) rfl ?_
  have n12 := hX.n12
  have n32 := hX.n32
  refine xa_aload_n (pc := 0) dX7_canAnswer_0 rfl ?_
  refine xa_getA (pc := 1) 7 1 (ci 0 127) lfX7_17 dX7_canAnswer_1 hX.c_m129 (kd_129 _) rfl hX.c_r1 ?_
  refine xa_iload_n (pc := 4) dX7_canAnswer_4 rfl ?_
  refine xa_aaldS (pc := 5) s (ci s 128) dX7_canAnswer_5 hX.c_m127 rfl (by omega) (hX.sA (by omega)) ?_
  refine xa_astore (pc := 6) dX7_canAnswer_6 (by decide) ?_
  refine xa_aload_n (pc := 8) dX7_canAnswer_8 rfl ?_
  refine xa_aload_n (pc := 9) dX7_canAnswer_9 rfl ?_
  refine xa_aload (pc := 10) dX7_canAnswer_10 rfl ?_
  refine xa_callV (pc := 12) hX.c_m129 (kd_129 _) rfl lcX7_331 dX7_canAnswer_12 (cx_speaksFor E hX hh ha (by omega)) rfl rfl (by decide) (Nat.le_of_ble_eq_true rfl) (by decide) ?_
  rintro _ _ _ ⟨rfl, rfl, rfl⟩
  refine xa_if_eq (pc := 15) 44 dX7_canAnswer_15 (by decide) (fun h15 => ?_) (fun h15 => ?_)
  · have h15 := xa_b_0.mp h15
    refine xa_aload_n (pc := 44) dX7_canAnswer_44 rfl ?_
    refine xa_getIv (pc := 45) 3 9 _ lfX7_91 dX7_canAnswer_45 ((hX.hS hh).1 0 (by decide)) (kd_0 _) rfl (hX.h_isKeeper hh) ?_
    refine xa_if_eq (pc := 48) 81 dX7_canAnswer_48 (by decide) (fun h48 => ?_) (fun h48 => ?_)
    · refine xa_iconst (pc := 81) (v := 0) dX7_canAnswer_81 (by decide) ?_
      exact xa_zret dX7_canAnswer_82 rfl (by decide) ⟨xa_r0 (by simp [cq_ca, h15, h48]), rfl, rfl⟩
    · refine xa_aload_n (pc := 51) dX7_canAnswer_51 rfl ?_
      refine xa_getA (pc := 52) 3 4 (ci h 1) lfX7_134 dX7_canAnswer_52 ((hX.hS hh).1 0 (by decide)) (kd_0 _) rfl ((hX.hS hh).2 (0, 4, 1) (by decide)) ?_
      refine xa_iload_n (pc := 55) dX7_canAnswer_55 rfl ?_
      refine xa_callV (pc := 56) ((hX.hS hh).1 1 (by decide)) (kd_1 _) rfl lcX7_191 dX7_canAnswer_56 (rq_has E hX hh (s := s) rfl (by omega)) rfl rfl (by decide) (Nat.le_of_ble_eq_true rfl) (by decide) ?_
      rintro _ _ _ ⟨rfl, rfl, rfl⟩
      refine xa_if_eq (pc := 59) 81 dX7_canAnswer_59 (by decide) (fun h59 => ?_) (fun h59 => ?_)
      · have h59 := xa_b_0.mp h59
        refine xa_iconst (pc := 81) (v := 0) dX7_canAnswer_81 (by decide) ?_
        exact xa_zret dX7_canAnswer_82 rfl (by decide) ⟨xa_r0 (by simp [cq_ca, h15, h48, h59]), rfl, rfl⟩
      · have h59 := xa_b_n0.mp h59
        refine xa_aload_n (pc := 62) dX7_canAnswer_62 rfl ?_
        refine xa_getA (pc := 63) 3 4 (ci h 1) lfX7_134 dX7_canAnswer_63 ((hX.hS hh).1 0 (by decide)) (kd_0 _) rfl ((hX.hS hh).2 (0, 4, 1) (by decide)) ?_
        refine xa_getA (pc := 66) 6 1 (ci h 3) lfX7_192 dX7_canAnswer_66 ((hX.hS hh).1 1 (by decide)) (kd_1 _) rfl ((hX.hS hh).2 (1, 1, 3) (by decide)) ?_
        refine xa_iload_n (pc := 69) dX7_canAnswer_69 rfl ?_
        refine xa_ialdC (pc := 70) s _ dX7_canAnswer_70 ((hX.hS hh).1 3 (by decide)) (kd_3 _) (ln_3 _) rfl (by omega) (by decide) (hX.r_marks hh (by omega)) ?_
        refine xa_iload_n (pc := 71) dX7_canAnswer_71 rfl ?_
        refine xa_iand (pc := 72) dX7_canAnswer_72 ?_
        refine xa_iload_n (pc := 73) dX7_canAnswer_73 rfl ?_
        refine xa_icmp_ne (pc := 74) 81 dX7_canAnswer_74 (by decide) (fun h74 => ?_) (fun h74 => ?_)
        · refine xa_iconst (pc := 81) (v := 0) dX7_canAnswer_81 (by decide) ?_
          exact xa_zret dX7_canAnswer_82 rfl (by decide) ⟨xa_r0 (by simp [cq_ca, h15, h48, h59, h74]), rfl, rfl⟩
        · refine xa_iconst (pc := 77) (v := 1) dX7_canAnswer_77 (by decide) ?_
          refine xa_goto (pc := 78) (tgt := 82) dX7_canAnswer_78 (by decide) ?_
          exact xa_zret dX7_canAnswer_82 rfl (by decide) ⟨xa_r1 (by simp [cq_ca, h15, h48, h59, h74]), rfl, rfl⟩
  · have h15 := xa_b_n0.mp h15
    refine xa_aload (pc := 18) dX7_canAnswer_18 rfl ?_
    refine xa_getIv (pc := 20) 5 7 _ lfX7_59 dX7_canAnswer_20 (hX.sM (by omega)) (kd_128 _) rfl (hX.s_state (by omega)) ?_
    refine xa_iconst (pc := 23) (v := 2) dX7_canAnswer_23 (by decide) ?_
    refine xa_icmp_ne (pc := 24) 42 dX7_canAnswer_24 (by decide) (fun h24 => ?_) (fun h24 => ?_)
    · refine xa_iconst (pc := 42) (v := 0) dX7_canAnswer_42 (by decide) ?_
      exact xa_zret dX7_canAnswer_43 rfl (by decide) ⟨xa_r0 (by simp [cq_ca, h15, h24]), rfl, rfl⟩
    · refine xa_aload (pc := 27) dX7_canAnswer_27 rfl ?_
      refine xa_getIv (pc := 29) 5 6 _ lfX7_56 dX7_canAnswer_29 (hX.sM (by omega)) (kd_128 _) rfl (hX.s_marks (by omega)) ?_
      refine xa_iload_n (pc := 32) dX7_canAnswer_32 rfl ?_
      refine xa_iand (pc := 33) dX7_canAnswer_33 ?_
      refine xa_iload_n (pc := 34) dX7_canAnswer_34 rfl ?_
      refine xa_icmp_ne (pc := 35) 42 dX7_canAnswer_35 (by decide) (fun h35 => ?_) (fun h35 => ?_)
      · refine xa_iconst (pc := 42) (v := 0) dX7_canAnswer_42 (by decide) ?_
        exact xa_zret dX7_canAnswer_43 rfl (by decide) ⟨xa_r0 (by simp [cq_ca, h15, h24, h35]), rfl, rfl⟩
      · refine xa_iconst (pc := 38) (v := 1) dX7_canAnswer_38 (by decide) ?_
        refine xa_goto (pc := 39) (tgt := 43) dX7_canAnswer_39 (by decide) ?_
        exact xa_zret dX7_canAnswer_43 rfl (by decide) ⟨xa_r1 (by simp [cq_ca, h15, h24, h35]), rfl, rfl⟩
