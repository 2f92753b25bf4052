theorem px_b {T : xa_AH} {h q x : Nat} {net : Int32} (hl : lcell q) : px T h q net (ci x 80) = T (ci x 80) := by
  unfold px; split
  · rw [up_o (ci_ne (by decide) (by decide) (by decide)), up_o (ci_ne (by decide) (by decide) (by decide)), up_o (ci_ne (by decide) (by decide) (by decide)), up_o (ci_nl (by decide) (by decide) hl)]
  · rfl
def PC (S T : xa_AH) (R : xa_AR) (h : Nat) : Option Value → xa_AH → xa_AR → Prop := fun r T2 R2 => none = r ∧ ((S 131 h = S 132 h ∧ T = T2 ∧ R = R2) ∨ (¬ S 131 h = S 132 h ∧ px (px T h (wh R h) (S 131 h)) h (w2 R h) (S 132 h) = T2 ∧ swR R h = R2))
set_option maxHeartbeats 4000000 in
theorem cx_writeCarried (E : xa_EV) {L : List Nat} {T : xa_AH} {R : xa_AR} {nh ns k : Nat} {pw : Nat → Nat} {S : xa_AH} (hX : RX nh ns k pw L T R S) {h : Nat} (hh : h < nh) (hb : ¬ S 139 h = 0) : xa_Ct E mX7_writeCarried [.ref (ci 0 129), .ref (ci h 0), .ref (ci h 80)] L T R (PC S T R h) := by
  refine xa_Ct.of [some (.ref (ci 0 129)), some (.ref (ci h 0)), some (.ref (ci h 80)), none] rfl (Nat.le_of_ble_eq_true rfl) (by simp [Value.category]) rfl ?_
  have n12 := hX.n12
  have n32 := hX.n32
  refine xa_aload_n (pc := 0) dX7_writeCarried_0 rfl ?_
  refine xa_getIv (pc := 1) 3 7 _ lfX7_88 dX7_writeCarried_1 ((hX.hS hh).1 0 (by decide)) (kd_0 _) rfl (hX.h_net hh) ?_
  refine xa_aload_n (pc := 4) dX7_writeCarried_4 rfl ?_
  refine xa_getIv (pc := 5) 2 1 _ lfX7_209 dX7_writeCarried_5 (hX.l_br hh hb).1 (kd_80 _) rfl (hX.h_bnet hh hb) ?_
  refine xa_icmp_ne (pc := 8) 12 dX7_writeCarried_8 (by decide) (fun h8 => ?_) (fun h8 => ?_)
  · refine xa_aload_n (pc := 12) dX7_writeCarried_12 rfl ?_
    refine xa_getA (pc := 13) 3 15 (lt R h) lfX7_280 dX7_writeCarried_13 ((hX.hS hh).1 0 (by decide)) (kd_0 _) rfl (hX.l_rl hh) ?_
    refine xa_astore_n (pc := 16) dX7_writeCarried_16 (by decide) ?_
    refine xa_aload_n (pc := 17) dX7_writeCarried_17 rfl ?_
    refine xa_aload_n (pc := 18) dX7_writeCarried_18 rfl ?_
    refine xa_getA (pc := 19) 2 3 (wh R h) lfX7_340 dX7_writeCarried_19 (hX.l_br hh hb).1 (kd_80 _) rfl (hX.l_br hh hb).2.2.1 ?_
    refine xa_putR (pc := 22) (some (wh R h)) 3 15 lpX7_280 dX7_writeCarried_22 ((hX.hS hh).1 0 (by decide)) (kd_0 _) rfl (fun _ => by cases ‹Option Nat› <;> rfl) (fun _ => by cases ‹Option Nat› <;> rfl) ?_
    refine xa_aload_n (pc := 25) dX7_writeCarried_25 rfl ?_
    refine xa_aload_n (pc := 26) dX7_writeCarried_26 rfl ?_
    refine xa_putR (pc := 27) (some (lt R h)) 2 3 lpX7_340 dX7_writeCarried_27 (hX.l_br hh hb).1 (kd_80 _) rfl (fun _ => by cases ‹Option Nat› <;> rfl) (fun _ => by cases ‹Option Nat› <;> rfl) ?_
    refine xa_aload_n (pc := 30) dX7_writeCarried_30 rfl ?_
    refine xa_getA (pc := 31) 2 2 (l2 R h) lfX7_343 dX7_writeCarried_31 (hX.l_br hh hb).1 (kd_80 _) rfl (by rw [upr_o (Or.inl (by decide)), upr_o (Or.inl (by decide))]; exact (hX.l_br hh hb).2.1) ?_
    refine xa_astore_n (pc := 34) dX7_writeCarried_34 (by decide) ?_
    refine xa_aload_n (pc := 35) dX7_writeCarried_35 rfl ?_
    refine xa_aload_n (pc := 36) dX7_writeCarried_36 rfl ?_
    refine xa_getA (pc := 37) 2 4 (w2 R h) lfX7_344 dX7_writeCarried_37 (hX.l_br hh hb).1 (kd_80 _) rfl (by rw [upr_o (Or.inl (by decide)), upr_o (Or.inl (by decide))]; exact (hX.l_br hh hb).2.2.2.1) ?_
    refine xa_putR (pc := 40) (some (w2 R h)) 2 2 lpX7_343 dX7_writeCarried_40 (hX.l_br hh hb).1 (kd_80 _) rfl (fun _ => by cases ‹Option Nat› <;> rfl) (fun _ => by cases ‹Option Nat› <;> rfl) ?_
    refine xa_aload_n (pc := 43) dX7_writeCarried_43 rfl ?_
    refine xa_aload_n (pc := 44) dX7_writeCarried_44 rfl ?_
    refine xa_putR (pc := 45) (some (l2 R h)) 2 4 lpX7_344 dX7_writeCarried_45 (hX.l_br hh hb).1 (kd_80 _) rfl (fun _ => by cases ‹Option Nat› <;> rfl) (fun _ => by cases ‹Option Nat› <;> rfl) ?_
    refine xa_aload_n (pc := 48) dX7_writeCarried_48 rfl ?_
    refine xa_aload_n (pc := 49) dX7_writeCarried_49 rfl ?_
    refine xa_aload_n (pc := 50) dX7_writeCarried_50 rfl ?_
    refine xa_getA (pc := 51) 3 15 (wh R h) lfX7_280 dX7_writeCarried_51 ((hX.hS hh).1 0 (by decide)) (kd_0 _) rfl sw_15 ?_
    refine xa_aload_n (pc := 54) dX7_writeCarried_54 rfl ?_
    refine xa_getIv (pc := 55) 3 7 _ lfX7_88 dX7_writeCarried_55 ((hX.hS hh).1 0 (by decide)) (kd_0 _) rfl (hX.h_net hh) ?_
    refine xa_callV (pc := 58) hX.c_m129 (kd_129 _) rfl lcX7_284 dX7_writeCarried_58 (cx_post E (h := h) hX.c_m129 (cs_h_sw (hX.hS hh)) (cs_l_sw (hX.l_br hh hb).2.2.2.2.2.1) (lat_lc (lat_b hX hh hb).2.1).1 _) rfl rfl (by decide) (Nat.le_of_ble_eq_true rfl) (by decide) ?_
    rintro _ _ _ ⟨rfl, rfl, rfl⟩
    refine xa_aload_n (pc := 61) dX7_writeCarried_61 rfl ?_
    refine xa_aload_n (pc := 62) dX7_writeCarried_62 rfl ?_
    refine xa_aload_n (pc := 63) dX7_writeCarried_63 rfl ?_
    refine xa_getA (pc := 64) 2 2 (w2 R h) lfX7_343 dX7_writeCarried_64 (hX.l_br hh hb).1 (kd_80 _) rfl sw_2 ?_
    refine xa_aload_n (pc := 67) dX7_writeCarried_67 rfl ?_
    refine xa_getIv (pc := 68) 2 1 (S 132 h) lfX7_209 dX7_writeCarried_68 (hX.l_br hh hb).1 (kd_80 _) rfl (by rw [px_b (lat_lc (lat_b hX hh hb).2.1).1]; exact hX.h_bnet hh hb) ?_
    refine xa_callV (pc := 71) hX.c_m129 (kd_129 _) rfl lcX7_284 dX7_writeCarried_71 (cx_post E (h := h) hX.c_m129 (cs_h_sw (hX.hS hh)) (cs_l_sw (hX.l_br hh hb).2.2.2.2.2.2.1) (lat_lc (lat_b hX hh hb).2.2).1 _) rfl rfl (by decide) (Nat.le_of_ble_eq_true rfl) (by decide) ?_
    rintro _ _ _ ⟨rfl, rfl, rfl⟩
    exact xa_vret dX7_writeCarried_74 rfl ⟨rfl, Or.inr ⟨h8, rfl, rfl⟩⟩
  · exact xa_vret dX7_writeCarried_11 rfl ⟨rfl, Or.inl ⟨h8, rfl, rfl⟩⟩
