/-! ===== the reference: its cells ===== -/
def xm_L : List Nat := [130, 131, 132, 133, 134, 135, 136, 137, 138, 139, 140, 141, 142, 143, 144, 146, 147, 148, 149, 150, 151, 152, 153, 154, 155, 156, 158, 159, 160, 161, 162, 163, 164, 165, 166, 176, 177, 179, 180, 181, 182, 183, 184, 185, 186, 187, 188, 189, 190]
def xm_R : xa_AR := fun a k => if a = 130 ∧ xa_isR 8 k = true then some (131 + k) else none
theorem xm_o : 130 ∈ xm_L := by decide
theorem xm_131 : 131 ∈ xm_L := by decide
theorem xm_132 : 132 ∈ xm_L := by decide
theorem xm_133 : 133 ∈ xm_L := by decide
theorem xm_134 : 134 ∈ xm_L := by decide
theorem xm_135 : 135 ∈ xm_L := by decide
theorem xm_136 : 136 ∈ xm_L := by decide
theorem xm_137 : 137 ∈ xm_L := by decide
theorem xm_138 : 138 ∈ xm_L := by decide
theorem xm_139 : 139 ∈ xm_L := by decide
theorem xm_140 : 140 ∈ xm_L := by decide
theorem xm_141 : 141 ∈ xm_L := by decide
theorem xm_142 : 142 ∈ xm_L := by decide
theorem xm_143 : 143 ∈ xm_L := by decide
theorem xm_144 : 144 ∈ xm_L := by decide
theorem xm_146 : 146 ∈ xm_L := by decide
theorem xm_147 : 147 ∈ xm_L := by decide
theorem xm_148 : 148 ∈ xm_L := by decide
theorem xm_149 : 149 ∈ xm_L := by decide
theorem xm_150 : 150 ∈ xm_L := by decide
theorem xm_151 : 151 ∈ xm_L := by decide
theorem xm_152 : 152 ∈ xm_L := by decide
theorem xm_153 : 153 ∈ xm_L := by decide
theorem xm_154 : 154 ∈ xm_L := by decide
theorem xm_155 : 155 ∈ xm_L := by decide
theorem xm_156 : 156 ∈ xm_L := by decide
theorem xm_158 : 158 ∈ xm_L := by decide
theorem xm_159 : 159 ∈ xm_L := by decide
theorem xm_160 : 160 ∈ xm_L := by decide
theorem xm_161 : 161 ∈ xm_L := by decide
theorem xm_162 : 162 ∈ xm_L := by decide
theorem xm_163 : 163 ∈ xm_L := by decide
theorem xm_164 : 164 ∈ xm_L := by decide
theorem xm_165 : 165 ∈ xm_L := by decide
theorem xm_166 : 166 ∈ xm_L := by decide
theorem xm_176 : 176 ∈ xm_L := by decide
theorem xm_177 : 177 ∈ xm_L := by decide
theorem xm_179 : 179 ∈ xm_L := by decide
theorem xm_180 : 180 ∈ xm_L := by decide
theorem xm_181 : 181 ∈ xm_L := by decide
theorem xm_182 : 182 ∈ xm_L := by decide
theorem xm_183 : 183 ∈ xm_L := by decide
theorem xm_184 : 184 ∈ xm_L := by decide
theorem xm_185 : 185 ∈ xm_L := by decide
theorem xm_186 : 186 ∈ xm_L := by decide
theorem xm_187 : 187 ∈ xm_L := by decide
theorem xm_188 : 188 ∈ xm_L := by decide
theorem xm_189 : 189 ∈ xm_L := by decide
theorem xm_190 : 190 ∈ xm_L := by decide
/-- the counts, and what the services say of their hosts -/
def xm_wf (nh ns : Nat) (S : xa_AH) : Prop := nh ≤ 12 ∧ ns ≤ 32 ∧ S 130 14 = nI nh ∧ S 130 26 = nI ns ∧ ∀ s, s < ns → vp_in (S 146 s) nh
abbrev xc (x : Int32) : Nat := x.toNatClampNeg
theorem fa_lt (a b : Int32) : a < b ↔ a.toInt < b.toInt := Int32.lt_iff_toInt_lt
theorem fa_le (a b : Int32) : a ≤ b ↔ a.toInt ≤ b.toInt := Int32.le_iff_toInt_le
theorem xa_r1 {b : Bool} (h : b = true) : some (Value.int (xa_b b)) = some (Value.int 1) := by rw [h]; rfl
theorem xa_r0 {b : Bool} (h : b = false) : some (Value.int (xa_b b)) = some (Value.int 0) := by rw [h]; rfl
def xm_in (v b c : Int32) : Bool := decide (b ≤ v) && decide (v ≤ c)
theorem xm_in_t {v b c : Int32} : xm_in v b c = true ↔ b ≤ v ∧ v ≤ c := by simp [xm_in]
theorem xm_in_f {v b c : Int32} : xm_in v b c = false ↔ ¬ (b ≤ v ∧ v ≤ c) := by rw [← xm_in_t]; cases xm_in v b c <;> simp
def xm_isH (nh : Nat) (h : Int32) : Bool := xm_in h 0 (nI nh - 1)
theorem xm_isH_t {nh : Nat} (hn : nh ≤ 100) {h : Int32} : xm_isH nh h = true ↔ vp_in h nh := by
  rw [xm_isH, xm_in_t, vp_in_iff, fa_le, fa_le]
  have e : (nI nh - 1).toInt = (nh : Int) - 1 := by
    have := pk_sub_toInt (a := nh) (b := 1) (by omega) (by omega)
    exact this
  rw [e]
  have : (0 : Int32).toInt = 0 := rfl
  rw [this]
  omega
theorem xm_isH_n {nh j : Nat} (hn : nh ≤ 100) (hj : j < nh) : xm_isH nh (nI j) = true := (xm_isH_t hn).mpr (vp_in_nI hj (by omega))
theorem xc_n {j : Nat} (h : j < 2 ^ 31) : xc (nI j) = j := nI_clamp h
set_option maxHeartbeats 4000000 in
theorem cm_in (E : xa_EV) (L : List Nat) (S : xa_AH) (R : xa_AR) (v b c : Int32) : xa_Ct E mX8_in [.int v, .int b, .int c] L S R (xa_pR (.int (xa_b (xm_in v b c))) S R) := by
  refine xa_Ct.of [some (.int v), some (.int b), some (.int c)] rfl (Nat.le_of_ble_eq_true rfl) (by simp [Value.category]) rfl ?_
  refine xa_iload_n (pc := 0) dX8_in_0 rfl ?_
  refine xa_iload_n (pc := 1) dX8_in_1 rfl ?_
  refine xa_icmp_lt (pc := 2) 14 dX8_in_2 (by decide) (fun h2 => ?_) (fun h2 => ?_)
  · refine xa_iconst (pc := 14) (v := 0) dX8_in_14 (by decide) ?_
    exact xa_zret dX8_in_15 rfl (by decide) ⟨xa_r0 (xm_in_f.mpr (by simp only [fa_lt, fa_le] at *; omega)), rfl, rfl⟩
  · refine xa_iload_n (pc := 5) dX8_in_5 rfl ?_
    refine xa_iload_n (pc := 6) dX8_in_6 rfl ?_
    refine xa_icmp_gt (pc := 7) 14 dX8_in_7 (by decide) (fun h7 => ?_) (fun h7 => ?_)
    · refine xa_iconst (pc := 14) (v := 0) dX8_in_14 (by decide) ?_
      exact xa_zret dX8_in_15 rfl (by decide) ⟨xa_r0 (xm_in_f.mpr (by simp only [fa_lt, fa_le] at *; omega)), rfl, rfl⟩
    · refine xa_iconst (pc := 10) (v := 1) dX8_in_10 (by decide) ?_
      refine xa_goto (pc := 11) (tgt := 15) dX8_in_11 (by decide) ?_
      exact xa_zret dX8_in_15 rfl (by decide) ⟨xa_r1 (xm_in_t.mpr (by simp only [fa_lt, fa_le] at *; omega)), rfl, rfl⟩
set_option maxHeartbeats 4000000 in
theorem cm_isHost (E : xa_EV) (S : xa_AH) {nh ns : Nat} (hW : xm_wf nh ns S) (h : Int32) : xa_Ct E mX8_isHost [.ref 130, .int h] xm_L S xm_R (xa_pR (.int (xa_b (xm_isH nh h))) S xm_R) := by
  refine xa_Ct.of [some (.ref 130), some (.int h)] rfl (Nat.le_of_ble_eq_true rfl) (by simp [Value.category]) rfl ?_
  obtain ⟨w1, w2, w3, w4, w5⟩ := id hW
  refine xa_iload_n (pc := 0) dX8_isHost_0 rfl ?_
  refine xa_iconst (pc := 1) (v := 0) dX8_isHost_1 (by decide) ?_
  refine xa_aload_n (pc := 2) dX8_isHost_2 rfl ?_
  refine xa_getI (pc := 3) 8 14 lfX8_155 dX8_isHost_3 xm_o rfl rfl ?_
  refine xa_iconst (pc := 6) (v := 1) dX8_isHost_6 (by decide) ?_
  refine xa_isub (pc := 7) dX8_isHost_7 ?_
  refine xa_callS (pc := 8) lcX8_159 dX8_isHost_8 (cm_in E _ _ _ _ _ _) rfl rfl (by decide) (Nat.le_of_ble_eq_true rfl) (by decide) ?_
  rintro _ _ _ ⟨rfl, rfl, rfl⟩
  exact xa_zret dX8_isHost_11 rfl (xa_b_nar _) ⟨by rw [w3]; rfl, rfl, rfl⟩
set_option maxHeartbeats 4000000 in
theorem cm_isService (E : xa_EV) (S : xa_AH) {nh ns : Nat} (hW : xm_wf nh ns S) (h : Int32) : xa_Ct E mX8_isService [.ref 130, .int h] xm_L S xm_R (xa_pR (.int (xa_b (xm_isH ns h))) S xm_R) := by
  refine xa_Ct.of [some (.ref 130), some (.int h)] rfl (Nat.le_of_ble_eq_true rfl) (by simp [Value.category]) rfl ?_
  obtain ⟨w1, w2, w3, w4, w5⟩ := id hW
  refine xa_iload_n (pc := 0) dX8_isService_0 rfl ?_
  refine xa_iconst (pc := 1) (v := 0) dX8_isService_1 (by decide) ?_
  refine xa_aload_n (pc := 2) dX8_isService_2 rfl ?_
  refine xa_getI (pc := 3) 8 26 lfX8_170 dX8_isService_3 xm_o rfl rfl ?_
  refine xa_iconst (pc := 6) (v := 1) dX8_isService_6 (by decide) ?_
  refine xa_isub (pc := 7) dX8_isService_7 ?_
  refine xa_callS (pc := 8) lcX8_159 dX8_isService_8 (cm_in E _ _ _ _ _ _) rfl rfl (by decide) (Nat.le_of_ble_eq_true rfl) (by decide) ?_
  rintro _ _ _ ⟨rfl, rfl, rfl⟩
  exact xa_zret dX8_isService_11 rfl (xa_b_nar _) ⟨by rw [w4]; rfl, rfl, rfl⟩
def xm_aw (nh : Nat) (S : xa_AH) (h : Int32) : Bool := xm_isH nh h && decide (S 136 (xc h) = 2)
def xm_up (nh : Nat) (S : xa_AH) (h : Int32) : Bool := xm_aw nh S h && decide (S 137 (xc h) = 0)
theorem xm_aw_h {nh : Nat} {S : xa_AH} {h : Int32} (g : xm_aw nh S h = true) : xm_isH nh h = true := by
  rw [xm_aw, Bool.and_eq_true] at g; exact g.1
theorem xm_up_h {nh : Nat} {S : xa_AH} {h : Int32} (g : xm_up nh S h = true) : xm_isH nh h = true := by
  rw [xm_up, Bool.and_eq_true] at g; exact xm_aw_h g.1
set_option maxHeartbeats 4000000 in
theorem cm_isAwake (E : xa_EV) (S : xa_AH) {nh ns : Nat} (hW : xm_wf nh ns S) (h : Int32) : xa_Ct E mX8_isAwake [.ref 130, .int h] xm_L S xm_R (xa_pR (.int (xa_b (xm_aw nh S h))) S xm_R) := by
  refine xa_Ct.of [some (.ref 130), some (.int h)] rfl (Nat.le_of_ble_eq_true rfl) (by simp [Value.category]) rfl ?_
  obtain ⟨w1, w2, w3, w4, w5⟩ := id hW
  refine xa_aload_n (pc := 0) dX8_isAwake_0 rfl ?_
  refine xa_iload_n (pc := 1) dX8_isAwake_1 rfl ?_
  refine xa_callV (pc := 2) xm_o rfl rfl lcX8_163 dX8_isAwake_2 (cm_isHost E _ hW _) rfl rfl (by decide) (Nat.le_of_ble_eq_true rfl) (by decide) ?_
  rintro _ _ _ ⟨rfl, rfl, rfl⟩
  refine xa_if_eq (pc := 5) 22 dX8_isAwake_5 (by decide) (fun h5 => ?_) (fun h5 => ?_)
  · have h5 := xa_b_0.mp h5
    refine xa_iconst (pc := 22) (v := 0) dX8_isAwake_22 (by decide) ?_
    exact xa_zret dX8_isAwake_23 rfl (by decide) ⟨xa_r0 (by simp [xm_aw, *]), rfl, rfl⟩
  · have h5 := xa_b_n0.mp h5
    have hv1 := (xm_isH_t (by omega)).mp h5
    have hb1 : xc h < _ := xa_in_lt hv1
    refine xa_aload_n (pc := 8) dX8_isAwake_8 rfl ?_
    refine xa_getA (pc := 9) 8 5 136 lfX8_25 dX8_isAwake_9 xm_o rfl rfl rfl ?_
    refine xa_iload_n (pc := 12) dX8_isAwake_12 rfl ?_
    refine xa_ialdN (pc := 13) (xc h) dX8_isAwake_13 xm_136 rfl (xa_in_eq hv1) (by show _ < 12; omega) (by decide) ?_
    refine xa_iconst (pc := 14) (v := 2) dX8_isAwake_14 (by decide) ?_
    refine xa_icmp_ne (pc := 15) 22 dX8_isAwake_15 (by decide) (fun h15 => ?_) (fun h15 => ?_)
    · refine xa_iconst (pc := 22) (v := 0) dX8_isAwake_22 (by decide) ?_
      exact xa_zret dX8_isAwake_23 rfl (by decide) ⟨xa_r0 (by simp [xm_aw, *]), rfl, rfl⟩
    · refine xa_iconst (pc := 18) (v := 1) dX8_isAwake_18 (by decide) ?_
      refine xa_goto (pc := 19) (tgt := 23) dX8_isAwake_19 (by decide) ?_
      exact xa_zret dX8_isAwake_23 rfl (by decide) ⟨xa_r1 (by simp [xm_aw, *]), rfl, rfl⟩
set_option maxHeartbeats 4000000 in
theorem cm_isUp (E : xa_EV) (S : xa_AH) {nh ns : Nat} (hW : xm_wf nh ns S) (h : Int32) : xa_Ct E mX8_isUp [.ref 130, .int h] xm_L S xm_R (xa_pR (.int (xa_b (xm_up nh S h))) S xm_R) := by
  refine xa_Ct.of [some (.ref 130), some (.int h)] rfl (Nat.le_of_ble_eq_true rfl) (by simp [Value.category]) rfl ?_
  obtain ⟨w1, w2, w3, w4, w5⟩ := id hW
  refine xa_aload_n (pc := 0) dX8_isUp_0 rfl ?_
  refine xa_iload_n (pc := 1) dX8_isUp_1 rfl ?_
  refine xa_callV (pc := 2) xm_o rfl rfl lcX8_167 dX8_isUp_2 (cm_isAwake E _ hW _) rfl rfl (by decide) (Nat.le_of_ble_eq_true rfl) (by decide) ?_
  rintro _ _ _ ⟨rfl, rfl, rfl⟩
  refine xa_if_eq (pc := 5) 21 dX8_isUp_5 (by decide) (fun h5 => ?_) (fun h5 => ?_)
  · have h5 := xa_b_0.mp h5
    refine xa_iconst (pc := 21) (v := 0) dX8_isUp_21 (by decide) ?_
    exact xa_zret dX8_isUp_22 rfl (by decide) ⟨xa_r0 (by simp [xm_up, *]), rfl, rfl⟩
  · have h5 := xa_b_n0.mp h5
    have hv1 := (xm_isH_t (by omega)).mp (xm_aw_h h5)
    have hb1 : xc h < _ := xa_in_lt hv1
    refine xa_aload_n (pc := 8) dX8_isUp_8 rfl ?_
    refine xa_getA (pc := 9) 8 6 137 lfX8_28 dX8_isUp_9 xm_o rfl rfl rfl ?_
    refine xa_iload_n (pc := 12) dX8_isUp_12 rfl ?_
    refine xa_zaldN (pc := 13) (xc h) dX8_isUp_13 xm_137 rfl (xa_in_eq hv1) (by show _ < 12; omega) (by decide) ?_
    refine xa_if_ne (pc := 14) 21 dX8_isUp_14 (by decide) (fun h14 => ?_) (fun h14 => ?_)
    · refine xa_iconst (pc := 21) (v := 0) dX8_isUp_21 (by decide) ?_
      exact xa_zret dX8_isUp_22 rfl (by decide) ⟨xa_r0 (by simp [xm_up, *]), rfl, rfl⟩
    · refine xa_iconst (pc := 17) (v := 1) dX8_isUp_17 (by decide) ?_
      refine xa_goto (pc := 18) (tgt := 22) dX8_isUp_18 (by decide) ?_
      exact xa_zret dX8_isUp_22 rfl (by decide) ⟨xa_r1 (by simp [xm_up, *]), rfl, rfl⟩
