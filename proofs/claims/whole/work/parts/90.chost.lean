def PXA (pw : Nat → Nat) (v : Value) (nh ns : Nat) (S : xa_AH) : Option Value → List Nat → xa_AH → xa_AR → Prop := fun r L T R => some v = r ∧ RX nh ns 0 pw L T R S
def xm_hok (nh : Nat) (net lo hg rk : Int32) : Bool := (xm_in net 0 3 && (xm_in lo 1 250 && (xm_in hg lo 250 && (xm_in rk 0 1000 && decide (¬ nh = 12)))))
theorem hok_t {nh : Nat} {net lo hg rk : Int32} (h1 : ¬ lo < 1) (h2 : ¬ hg < lo) (h3 : ¬ 250 < hg) (h4 : xm_in net 0 3 = true) (h5 : ¬ rk < 0) (h6 : ¬ 1000 < rk) (h7 : nh < 12) : xm_hok nh net lo hg rk = true := by
  unfold xm_hok
  rw [h4]
  simp only [xm_in, Bool.and_eq_true, decide_eq_true_eq, Bool.true_and]
  simp only [fa_lt, fa_le] at h1 h2 h3 h5 h6 ⊢
  have e : (250 : Int32).toInt = 250 := rfl
  have e1 : (1 : Int32).toInt = 1 := rfl
  have e0 : (0 : Int32).toInt = 0 := rfl
  have e2 : (1000 : Int32).toInt = 1000 := rfl
  rw [e] at h3 ⊢; rw [e1] at h1 ⊢; rw [e0] at h5 ⊢; rw [e2] at h6 ⊢
  omega
theorem hok_f {nh : Nat} {net lo hg rk : Int32} (h : lo < 1 ∨ hg < lo ∨ 250 < hg ∨ xm_in net 0 3 = false ∨ rk < 0 ∨ 1000 < rk ∨ nh = 12) : ¬ xm_hok nh net lo hg rk = true := by
  intro g
  unfold xm_hok at g
  simp only [Bool.and_eq_true, decide_eq_true_eq] at g
  obtain ⟨g1, g2, g3, g4, g5⟩ := g
  have g2 := xm_in_t.mp g2
  have g3 := xm_in_t.mp g3
  have g4 := xm_in_t.mp g4
  rcases h with h | h | h | h | h | h | h
  · exact absurd g2.1 (Int32.not_le.mpr h)
  · exact absurd g3.1 (Int32.not_le.mpr h)
  · exact absurd g3.2 (Int32.not_le.mpr h)
  · rw [h] at g1; cases g1
  · exact absurd g4.1 (Int32.not_le.mpr h)
  · exact absurd g4.2 (Int32.not_le.mpr h)
  · exact g5 h
theorem zi_o {T : xa_AH} {a b : Nat} (h : b ≠ a) : xa_zi T a b = T b := by funext y; simp [xa_zi, h]
theorem zr_o {R : xa_AR} {a b : Nat} (h : b ≠ a) : xa_zr R a b = R b := by funext y; simp [xa_zr, h]
theorem ref_ne {a b : Nat} (h : a ≠ b) : Value.ref a ≠ Value.ref b := fun e => h (Value.ref.inj e)
theorem hok_2 {nh : Nat} {net lo hg rk : Int32} (h : xm_hok nh net lo hg rk = true) : xm_in lo 1 250 = true ∧ xm_in hg lo 250 = true := by
  unfold xm_hok at h
  simp only [Bool.and_eq_true, decide_eq_true_eq] at h
  exact ⟨h.2.1, h.2.2.1⟩
set_option maxHeartbeats 4000000 in
theorem cx_host (E : xa_EV) {L : List Nat} {T : xa_AH} {R : xa_AR} {nh ns : Nat} {pw : Nat → Nat} {S : xa_AH} (hX : RX nh ns 0 pw L T R S) (net lo hg rk : Int32) : xa_CtA E mX7_host [.ref (ci 0 129), .int net, .int lo, .int hg, .int rk] L T R (PXA pw (.int (xm_host nh ns S net lo hg rk).1) (if (xm_hok nh net lo hg rk) = true then nh + 1 else nh) ns (xm_host nh ns S net lo hg rk).2) := by
  refine xa_CtA.of [some (.ref (ci 0 129)), some (.int net), some (.int lo), some (.int hg), some (.int rk), none, none] rfl (Nat.le_of_ble_eq_true rfl) (by simp [Value.category]) rfl ?_
  have n12 := hX.n12
  have n32 := hX.n32
  refine xa_iload_n (pc := 0) dX7_host_0 rfl ?_
  refine xa_iconst (pc := 1) (v := 1) dX7_host_1 (by decide) ?_
  refine xa_icmp_lt (pc := 2) 21 dX7_host_2 (by decide) (fun h2 => ?_) (fun h2 => ?_)
  · refine xa_iconst (pc := 21) (v := 0) dX7_host_21 (by decide) ?_
    refine xa_istore (pc := 22) dX7_host_22 (by decide) ?_
    refine xa_iload_n (pc := 24) dX7_host_24 rfl ?_
    refine xa_callS (pc := 25) lcX7_21 dX7_host_25 (cx_isNet E _) rfl rfl (by decide) (Nat.le_of_ble_eq_true rfl) (by decide) ?_
    rintro _ _ _ ⟨rfl, rfl, rfl⟩
    refine xa_if_eq (pc := 28) 58 dX7_host_28 (by decide) (fun h28 => ?_) (fun h28 => ?_)
    · have h28 := xa_b_0.mp h28
      refine xa_iconst (pc := 58) (v := (-1)) dX7_host_58 (by decide) ?_
      have hk := hok_f (nh := nh) (net := net) (lo := lo) (hg := hg) (rk := rk) (Or.inl h2)
      rw [show xm_host nh ns S net lo hg rk = _ from if_neg hk, if_neg hk]
      exact xa_zretA dX7_host_59 rfl rfl ⟨rfl, hX⟩
    · have h28 := xa_b_n0.mp h28
      refine xa_iload (pc := 31) dX7_host_31 rfl ?_
      refine xa_if_eq (pc := 33) 58 dX7_host_33 (by decide) (fun _ => ?_) (fun hc => absurd hc (by decide))
      refine xa_iconst (pc := 58) (v := (-1)) dX7_host_58 (by decide) ?_
      have hk := hok_f (nh := nh) (net := net) (lo := lo) (hg := hg) (rk := rk) (Or.inl h2)
      rw [show xm_host nh ns S net lo hg rk = _ from if_neg hk, if_neg hk]
      exact xa_zretA dX7_host_59 rfl rfl ⟨rfl, hX⟩
  · refine xa_iload_n (pc := 5) dX7_host_5 rfl ?_
    refine xa_iload_n (pc := 6) dX7_host_6 rfl ?_
    refine xa_icmp_gt (pc := 7) 21 dX7_host_7 (by decide) (fun h7 => ?_) (fun h7 => ?_)
    · refine xa_iconst (pc := 21) (v := 0) dX7_host_21 (by decide) ?_
      refine xa_istore (pc := 22) dX7_host_22 (by decide) ?_
      refine xa_iload_n (pc := 24) dX7_host_24 rfl ?_
      refine xa_callS (pc := 25) lcX7_21 dX7_host_25 (cx_isNet E _) rfl rfl (by decide) (Nat.le_of_ble_eq_true rfl) (by decide) ?_
      rintro _ _ _ ⟨rfl, rfl, rfl⟩
      refine xa_if_eq (pc := 28) 58 dX7_host_28 (by decide) (fun h28 => ?_) (fun h28 => ?_)
      · have h28 := xa_b_0.mp h28
        refine xa_iconst (pc := 58) (v := (-1)) dX7_host_58 (by decide) ?_
        have hk := hok_f (nh := nh) (net := net) (lo := lo) (hg := hg) (rk := rk) (Or.inr (Or.inl h7))
        rw [show xm_host nh ns S net lo hg rk = _ from if_neg hk, if_neg hk]
        exact xa_zretA dX7_host_59 rfl rfl ⟨rfl, hX⟩
      · have h28 := xa_b_n0.mp h28
        refine xa_iload (pc := 31) dX7_host_31 rfl ?_
        refine xa_if_eq (pc := 33) 58 dX7_host_33 (by decide) (fun _ => ?_) (fun hc => absurd hc (by decide))
        refine xa_iconst (pc := 58) (v := (-1)) dX7_host_58 (by decide) ?_
        have hk := hok_f (nh := nh) (net := net) (lo := lo) (hg := hg) (rk := rk) (Or.inr (Or.inl h7))
        rw [show xm_host nh ns S net lo hg rk = _ from if_neg hk, if_neg hk]
        exact xa_zretA dX7_host_59 rfl rfl ⟨rfl, hX⟩
    · refine xa_iload_n (pc := 10) dX7_host_10 rfl ?_
      refine xa_sipush (pc := 11) (v := 250) dX7_host_11 (by decide) ?_
      refine xa_icmp_gt (pc := 14) 21 dX7_host_14 (by decide) (fun h14 => ?_) (fun h14 => ?_)
      · refine xa_iconst (pc := 21) (v := 0) dX7_host_21 (by decide) ?_
        refine xa_istore (pc := 22) dX7_host_22 (by decide) ?_
        refine xa_iload_n (pc := 24) dX7_host_24 rfl ?_
        refine xa_callS (pc := 25) lcX7_21 dX7_host_25 (cx_isNet E _) rfl rfl (by decide) (Nat.le_of_ble_eq_true rfl) (by decide) ?_
        rintro _ _ _ ⟨rfl, rfl, rfl⟩
        refine xa_if_eq (pc := 28) 58 dX7_host_28 (by decide) (fun h28 => ?_) (fun h28 => ?_)
        · have h28 := xa_b_0.mp h28
          refine xa_iconst (pc := 58) (v := (-1)) dX7_host_58 (by decide) ?_
          have hk := hok_f (nh := nh) (net := net) (lo := lo) (hg := hg) (rk := rk) (Or.inr (Or.inr (Or.inl h14)))
          rw [show xm_host nh ns S net lo hg rk = _ from if_neg hk, if_neg hk]
          exact xa_zretA dX7_host_59 rfl rfl ⟨rfl, hX⟩
        · have h28 := xa_b_n0.mp h28
          refine xa_iload (pc := 31) dX7_host_31 rfl ?_
          refine xa_if_eq (pc := 33) 58 dX7_host_33 (by decide) (fun _ => ?_) (fun hc => absurd hc (by decide))
          refine xa_iconst (pc := 58) (v := (-1)) dX7_host_58 (by decide) ?_
          have hk := hok_f (nh := nh) (net := net) (lo := lo) (hg := hg) (rk := rk) (Or.inr (Or.inr (Or.inl h14)))
          rw [show xm_host nh ns S net lo hg rk = _ from if_neg hk, if_neg hk]
          exact xa_zretA dX7_host_59 rfl rfl ⟨rfl, hX⟩
      · refine xa_iconst (pc := 17) (v := 1) dX7_host_17 (by decide) ?_
        refine xa_goto (pc := 18) (tgt := 22) dX7_host_18 (by decide) ?_
        refine xa_istore (pc := 22) dX7_host_22 (by decide) ?_
        refine xa_iload_n (pc := 24) dX7_host_24 rfl ?_
        refine xa_callS (pc := 25) lcX7_21 dX7_host_25 (cx_isNet E _) rfl rfl (by decide) (Nat.le_of_ble_eq_true rfl) (by decide) ?_
        rintro _ _ _ ⟨rfl, rfl, rfl⟩
        refine xa_if_eq (pc := 28) 58 dX7_host_28 (by decide) (fun h28 => ?_) (fun h28 => ?_)
        · have h28 := xa_b_0.mp h28
          refine xa_iconst (pc := 58) (v := (-1)) dX7_host_58 (by decide) ?_
          have hk := hok_f (nh := nh) (net := net) (lo := lo) (hg := hg) (rk := rk) (Or.inr (Or.inr (Or.inr (Or.inl h28))))
          rw [show xm_host nh ns S net lo hg rk = _ from if_neg hk, if_neg hk]
          exact xa_zretA dX7_host_59 rfl rfl ⟨rfl, hX⟩
        · have h28 := xa_b_n0.mp h28
          refine xa_iload (pc := 31) dX7_host_31 rfl ?_
          refine xa_if_eq (pc := 33) 58 dX7_host_33 (by decide) (fun hc => absurd hc (by decide)) (fun _ => ?_)
          refine xa_iload (pc := 36) dX7_host_36 rfl ?_
          refine xa_if_lt (pc := 38) 58 dX7_host_38 (by decide) (fun h38 => ?_) (fun h38 => ?_)
          · refine xa_iconst (pc := 58) (v := (-1)) dX7_host_58 (by decide) ?_
            have hk := hok_f (nh := nh) (net := net) (lo := lo) (hg := hg) (rk := rk) (Or.inr (Or.inr (Or.inr (Or.inr (Or.inl h38)))))
            rw [show xm_host nh ns S net lo hg rk = _ from if_neg hk, if_neg hk]
            exact xa_zretA dX7_host_59 rfl rfl ⟨rfl, hX⟩
          · refine xa_iload (pc := 41) dX7_host_41 rfl ?_
            refine xa_sipush (pc := 43) (v := 1000) dX7_host_43 (by decide) ?_
            refine xa_icmp_gt (pc := 46) 58 dX7_host_46 (by decide) (fun h46 => ?_) (fun h46 => ?_)
            · refine xa_iconst (pc := 58) (v := (-1)) dX7_host_58 (by decide) ?_
              have hk := hok_f (nh := nh) (net := net) (lo := lo) (hg := hg) (rk := rk) (Or.inr (Or.inr (Or.inr (Or.inr (Or.inr (Or.inl h46))))))
              rw [show xm_host nh ns S net lo hg rk = _ from if_neg hk, if_neg hk]
              exact xa_zretA dX7_host_59 rfl rfl ⟨rfl, hX⟩
            · refine xa_aload_n (pc := 49) dX7_host_49 rfl ?_
              refine xa_getIv (pc := 50) 7 2 _ lfX7_25 dX7_host_50 hX.c_m129 (kd_129 _) rfl hX.g_nh ?_
              refine xa_bipush (pc := 53) (v := 12) dX7_host_53 (by decide) ?_
              refine xa_icmp_lt (pc := 55) 60 dX7_host_55 (by decide) (fun h55 => ?_) (fun h55 => ?_)
              · have hn : nh < 12 := by rw [fa_lt, nI_toInt (by omega)] at h55; have e : (12 : Int32).toInt = 12 := rfl; rw [e] at h55; omega
                have hk := hok_t h2 h7 h14 h28 h38 h46 hn
                rw [show xm_host nh ns S net lo hg rk = _ from if_pos hk, if_pos hk]
                have e129 : ci 0 129 ≠ ci nh 0 := ci_ne (by decide) (by decide) (by decide)
                have e126 : ci 0 126 ≠ ci nh 0 := ci_ne (by decide) (by decide) (by decide)
                have nw : ∀ r, r < 126 → ¬ ci nh r ∈ L := fun r hr => hX.c_nh nh r (Nat.le_refl _) hr
                refine xa_new (pc := 60) (ci nh 0) 3 lnX7_9 dX7_host_60 (kd_0 _) (nw 0 (by decide)) (nw 0 (by decide)) (by simp) (fun z => by simp at z; exact e129 z.symm) (fun b k z => nw 0 (by decide) (hX.c_cl b k _ z)) (by decide) (by decide) ?_
                refine xa_dup (pc := 63) dX7_host_63 rfl ?_
                refine xa_aload_n (pc := 64) dX7_host_64 rfl ?_
                refine xa_getIv (pc := 65) 7 2 (nI nh) lfX7_25 dX7_host_65 (List.mem_append_left _ hX.c_m129) (kd_129 _) rfl (by rw [zi_o e129]; exact hX.g_nh) ?_
                refine xa_iload_n (pc := 68) dX7_host_68 rfl ?_
                refine xa_iload_n (pc := 69) dX7_host_69 rfl ?_
                refine xa_iload_n (pc := 70) dX7_host_70 rfl ?_
                refine xa_iload (pc := 71) dX7_host_71 rfl ?_
                refine xa_callIA (pc := 73) lcX7_29 dX7_host_73 (cx_i3 E (h := nh) net lo hg rk (List.mem_append_right _ List.mem_cons_self) zr_0 (zr_cl hX.c_cl) (fun r a b z => (List.mem_append.mp z).elim (nw r (by omega)) (fun z => by have q := List.mem_singleton.mp z; unfold ci at q; omega))) rfl rfl (by decide) (Nat.le_of_ble_eq_true rfl) (by decide) (by decide) (fun a ha => List.mem_append_left _ ha) (fun a ha => by simp at ha; rw [ha]; exact List.mem_append_right _ List.mem_cons_self) (fun a ha => by simp at ha; rw [ha]; exact List.mem_append_left _ hX.c_m129) ?_
                rintro _ L1 T1 R1 ⟨rfl, acc⟩
                have f129 := hs_far (h := nh) (a := ci 0 129) (Or.inr (by decide))
                have f126 := hs_far (h := nh) (a := ci 0 126) (Or.inr (by decide))
                have t129 : T1 (ci 0 129) = T (ci 0 129) := by
                  rw [acc.2.1 _ f129.1]; rw [up_o e129, up_o e129, up_o e129, up_o e129, up_o e129, up_o e129, zi_o e129]
                have r129 : R1 (ci 0 129) = R (ci 0 129) := by rw [acc.2.2.2.1 _ f129.1 f129.2, zr_o e129]
                have m0 : ci nh 0 ∈ L1 := acc_m acc (List.mem_append_right _ List.mem_cons_self)
                have m9 : ci 0 129 ∈ L1 := acc_m acc (List.mem_append_left _ hX.c_m129)
                have m6 : ci 0 126 ∈ L1 := acc_m acc (List.mem_append_left _ hX.c_m126)
                refine xa_astore (pc := 76) dX7_host_76 (by decide) ?_
                refine xa_aload_n (pc := 78) dX7_host_78 rfl ?_
                refine xa_getA (pc := 79) 7 0 (ci 0 126) lfX7_11 dX7_host_79 m9 (kd_129 _) rfl (by rw [r129]; exact hX.c_r0) ?_
                refine xa_aload_n (pc := 82) dX7_host_82 rfl ?_
                refine xa_getIv (pc := 83) 7 2 (nI nh) lfX7_25 dX7_host_83 m9 (kd_129 _) rfl (by rw [t129]; exact hX.g_nh) ?_
                refine xa_aload (pc := 86) dX7_host_86 rfl ?_
                refine xa_aast_h (pc := 88) dX7_host_88 m6 (kd_126 _) m0 (kd_0 _) (by rw [ln_126]; exact xa_in_of hn (by decide)) ?_
                rw [show (nI nh).toNatClampNeg = nh from xc_n (by omega)]
                refine xa_aload_n (pc := 89) dX7_host_89 rfl ?_
                refine xa_dup (pc := 90) dX7_host_90 rfl ?_
                refine xa_getIv (pc := 91) 7 2 (nI nh) lfX7_25 dX7_host_91 m9 (kd_129 _) rfl (by rw [t129]; exact hX.g_nh) ?_
                refine xa_iconst (pc := 94) (v := 1) dX7_host_94 (by decide) ?_
                refine xa_iadd (pc := 95) dX7_host_95 ?_
                refine xa_putI (pc := 96) 7 2 lpX7_25 dX7_host_96 m9 (kd_129 _) rfl rfl rfl ?_
                refine xa_aload (pc := 99) dX7_host_99 rfl ?_
                refine xa_getIv (pc := 101) 3 0 (nI nh) lfX7_32 dX7_host_101 m0 (kd_0 _) rfl (by rw [up_o (Ne.symm e129), acc.2.1 _ hs_0]; simp [xa_up]) ?_
                exact xa_zretA dX7_host_104 rfl rfl ⟨rfl, RX_host hX hn h28 (hok_2 hk).1 (hok_2 hk).2 acc⟩
              · refine xa_iconst (pc := 58) (v := (-1)) dX7_host_58 (by decide) ?_
                have hk := hok_f (nh := nh) (net := net) (lo := lo) (hg := hg) (rk := rk) (Or.inr (Or.inr (Or.inr (Or.inr (Or.inr (Or.inr (by rw [fa_lt, nI_toInt (by omega)] at h55; have e : (12 : Int32).toInt = 12 := rfl; rw [e] at h55; omega)))))))
                rw [show xm_host nh ns S net lo hg rk = _ from if_neg hk, if_neg hk]
                exact xa_zretA dX7_host_59 rfl rfl ⟨rfl, hX⟩
