def lx_all (T : xa_AH) (q : Nat) : Int32 := T q 1 ||| T q 5 ||| T q 8 ||| T q 10
set_option maxHeartbeats 4000000 in
theorem cx_lempty (E : xa_EV) {L : List Nat} {T : xa_AH} {R : xa_AR} {q : Nat} (hq : cs_l L R q)  : xa_Ct E mX4_isEmpty [.ref q] L T R (xa_pR (.int (xa_b (decide (lx_all T q = 0)))) T R) := by
  refine xa_Ct.of [some (.ref q)] rfl (Nat.le_of_ble_eq_true rfl) (by simp [Value.category]) rfl ?_
  refine xa_aload_n (pc := 0) dX4_isEmpty_0 rfl ?_
  refine xa_getI (pc := 1) 4 1 lfX4_42 dX4_isEmpty_1 (hq).1 (hq).2.1 rfl ?_
  refine xa_aload_n (pc := 4) dX4_isEmpty_4 rfl ?_
  refine xa_getI (pc := 5) 4 5 lfX4_46 dX4_isEmpty_5 (hq).1 (hq).2.1 rfl ?_
  refine xa_ior (pc := 8) dX4_isEmpty_8 ?_
  refine xa_aload_n (pc := 9) dX4_isEmpty_9 rfl ?_
  refine xa_getI (pc := 10) 4 8 lfX4_49 dX4_isEmpty_10 (hq).1 (hq).2.1 rfl ?_
  refine xa_ior (pc := 13) dX4_isEmpty_13 ?_
  refine xa_aload_n (pc := 14) dX4_isEmpty_14 rfl ?_
  refine xa_getI (pc := 15) 4 10 lfX4_52 dX4_isEmpty_15 (hq).1 (hq).2.1 rfl ?_
  refine xa_ior (pc := 18) dX4_isEmpty_18 ?_
  refine xa_if_ne (pc := 19) 26 dX4_isEmpty_19 (by decide) (fun h19 => ?_) (fun h19 => ?_)
  · refine xa_iconst (pc := 26) (v := 0) dX4_isEmpty_26 (by decide) ?_
    exact xa_zret dX4_isEmpty_27 rfl (by decide) ⟨xa_r0 (by simp [lx_all, h19]), rfl, rfl⟩
  · refine xa_iconst (pc := 22) (v := 1) dX4_isEmpty_22 (by decide) ?_
    refine xa_goto (pc := 23) (tgt := 27) dX4_isEmpty_23 (by decide) ?_
    exact xa_zret dX4_isEmpty_27 rfl (by decide) ⟨xa_r1 (by simp [lx_all, h19]), rfl, rfl⟩
set_option maxHeartbeats 4000000 in
theorem cx_lclear (E : xa_EV) {L : List Nat} {T : xa_AH} {R : xa_AR} {q : Nat} (hq : cs_l L R q)  : xa_Ct E mX4_clear [.ref q] L T R (xa_pV (xa_up (xa_up (xa_up (xa_up T q 1 0) q 5 0) q 8 0) q 10 0) R) := by
  refine xa_Ct.of [some (.ref q)] rfl (Nat.le_of_ble_eq_true rfl) (by simp [Value.category]) rfl ?_
  refine xa_aload_n (pc := 0) dX4_clear_0 rfl ?_
  refine xa_iconst (pc := 1) (v := 0) dX4_clear_1 (by decide) ?_
  refine xa_putI (pc := 2) 4 1 lpX4_42 dX4_clear_2 (hq).1 (hq).2.1 rfl rfl rfl ?_
  refine xa_aload_n (pc := 5) dX4_clear_5 rfl ?_
  refine xa_iconst (pc := 6) (v := 0) dX4_clear_6 (by decide) ?_
  refine xa_putI (pc := 7) 4 5 lpX4_46 dX4_clear_7 (hq).1 (hq).2.1 rfl rfl rfl ?_
  refine xa_aload_n (pc := 10) dX4_clear_10 rfl ?_
  refine xa_iconst (pc := 11) (v := 0) dX4_clear_11 (by decide) ?_
  refine xa_putI (pc := 12) 4 8 lpX4_49 dX4_clear_12 (hq).1 (hq).2.1 rfl rfl rfl ?_
  refine xa_aload_n (pc := 15) dX4_clear_15 rfl ?_
  refine xa_iconst (pc := 16) (v := 0) dX4_clear_16 (by decide) ?_
  refine xa_putI (pc := 17) 4 10 lpX4_52 dX4_clear_17 (hq).1 (hq).2.1 rfl rfl rfl ?_
  exact xa_vret dX4_clear_20 rfl ⟨rfl, rfl, rfl⟩
set_option maxHeartbeats 4000000 in
theorem cx_lhasAsk (E : xa_EV) {L : List Nat} {T : xa_AH} {R : xa_AR} {q : Nat} (hq : cs_l L R q) {s : Nat} {xs : Int32} (es : xs = nI s) (hs : s < 32)  : xa_Ct E mX4_hasAsk [.ref q, .int xs] L T R (xa_pR (.int (xa_b (bt (T q 1) s))) T R) := by
  subst es
  refine xa_Ct.of [some (.ref q), some (.int (nI s))] rfl (Nat.le_of_ble_eq_true rfl) (by simp [Value.category]) rfl ?_
  refine xa_aload_n (pc := 0) dX4_hasAsk_0 rfl ?_
  refine xa_getI (pc := 1) 4 1 lfX4_42 dX4_hasAsk_1 (hq).1 (hq).2.1 rfl ?_
  refine xa_iload_n (pc := 4) dX4_hasAsk_4 rfl ?_
  refine xa_callSN (pc := 5) lcX4_61 dX4_hasAsk_5 (cx_isIn E _ (n := s) rfl (by omega)) rfl rfl (by decide) (Nat.le_of_ble_eq_true rfl) (by decide) ?_
  rintro _ _ _ ⟨rfl, rfl, rfl⟩
  exact xa_zret dX4_hasAsk_8 rfl (xa_b_nar _) ⟨rfl, rfl, rfl⟩
set_option maxHeartbeats 4000000 in
theorem cx_lhasClaim (E : xa_EV) {L : List Nat} {T : xa_AH} {R : xa_AR} {q : Nat} (hq : cs_l L R q) {s : Nat} {xs : Int32} (es : xs = nI s) (hs : s < 32)  : xa_Ct E mX4_hasClaim [.ref q, .int xs] L T R (xa_pR (.int (xa_b (bt (T q 5) s))) T R) := by
  subst es
  refine xa_Ct.of [some (.ref q), some (.int (nI s))] rfl (Nat.le_of_ble_eq_true rfl) (by simp [Value.category]) rfl ?_
  refine xa_aload_n (pc := 0) dX4_hasClaim_0 rfl ?_
  refine xa_getI (pc := 1) 4 5 lfX4_46 dX4_hasClaim_1 (hq).1 (hq).2.1 rfl ?_
  refine xa_iload_n (pc := 4) dX4_hasClaim_4 rfl ?_
  refine xa_callSN (pc := 5) lcX4_61 dX4_hasClaim_5 (cx_isIn E _ (n := s) rfl (by omega)) rfl rfl (by decide) (Nat.le_of_ble_eq_true rfl) (by decide) ?_
  rintro _ _ _ ⟨rfl, rfl, rfl⟩
  exact xa_zret dX4_hasClaim_8 rfl (xa_b_nar _) ⟨rfl, rfl, rfl⟩
set_option maxHeartbeats 4000000 in
theorem cx_lhasBye (E : xa_EV) {L : List Nat} {T : xa_AH} {R : xa_AR} {q : Nat} (hq : cs_l L R q) {s : Nat} {xs : Int32} (es : xs = nI s) (hs : s < 32)  : xa_Ct E mX4_hasBye [.ref q, .int xs] L T R (xa_pR (.int (xa_b (bt (T q 8) s))) T R) := by
  subst es
  refine xa_Ct.of [some (.ref q), some (.int (nI s))] rfl (Nat.le_of_ble_eq_true rfl) (by simp [Value.category]) rfl ?_
  refine xa_aload_n (pc := 0) dX4_hasBye_0 rfl ?_
  refine xa_getI (pc := 1) 4 8 lfX4_49 dX4_hasBye_1 (hq).1 (hq).2.1 rfl ?_
  refine xa_iload_n (pc := 4) dX4_hasBye_4 rfl ?_
  refine xa_callSN (pc := 5) lcX4_61 dX4_hasBye_5 (cx_isIn E _ (n := s) rfl (by omega)) rfl rfl (by decide) (Nat.le_of_ble_eq_true rfl) (by decide) ?_
  rintro _ _ _ ⟨rfl, rfl, rfl⟩
  exact xa_zret dX4_hasBye_8 rfl (xa_b_nar _) ⟨rfl, rfl, rfl⟩
set_option maxHeartbeats 4000000 in
theorem cx_lhasTelling (E : xa_EV) {L : List Nat} {T : xa_AH} {R : xa_AR} {q : Nat} (hq : cs_l L R q) {s : Nat} {xs : Int32} (es : xs = nI s) (hs : s < 32)  : xa_Ct E mX4_hasTelling [.ref q, .int xs] L T R (xa_pR (.int (xa_b (bt (T q 10) s))) T R) := by
  subst es
  refine xa_Ct.of [some (.ref q), some (.int (nI s))] rfl (Nat.le_of_ble_eq_true rfl) (by simp [Value.category]) rfl ?_
  refine xa_aload_n (pc := 0) dX4_hasTelling_0 rfl ?_
  refine xa_getI (pc := 1) 4 10 lfX4_52 dX4_hasTelling_1 (hq).1 (hq).2.1 rfl ?_
  refine xa_iload_n (pc := 4) dX4_hasTelling_4 rfl ?_
  refine xa_callSN (pc := 5) lcX4_61 dX4_hasTelling_5 (cx_isIn E _ (n := s) rfl (by omega)) rfl rfl (by decide) (Nat.le_of_ble_eq_true rfl) (by decide) ?_
  rintro _ _ _ ⟨rfl, rfl, rfl⟩
  exact xa_zret dX4_hasTelling_8 rfl (xa_b_nar _) ⟨rfl, rfl, rfl⟩
def lx_addAsk (T : xa_AH) (q k : Nat) (m n b : Int32) : xa_AH := (xa_up (xa_up (xa_up (xa_up T q 1 (bset (T q 1) k)) (q + 3) k m) (q + 4) k n) (q + 5) k b)
set_option maxHeartbeats 4000000 in
theorem cx_addAsk (E : xa_EV) {L : List Nat} {T : xa_AH} {R : xa_AR} {q : Nat} (hq : cs_l L R q) {k : Nat} {xk : Int32} (ek : xk = nI k) (hk : k < 16) (m n b : Int32) : xa_Ct E mX4_addAsk [.ref q, .int xk, .int m, .int n, .int b] L T R (xa_pV (lx_addAsk T q k m n b) R) := by
  subst ek
  refine xa_Ct.of [some (.ref q), some (.int (nI k)), some (.int m), some (.int n), some (.int b)] rfl (Nat.le_of_ble_eq_true rfl) (by simp [Value.category]) rfl ?_
  refine xa_aload_n (pc := 0) dX4_addAsk_0 rfl ?_
  refine xa_dup (pc := 1) dX4_addAsk_1 rfl ?_
  refine xa_getI (pc := 2) 4 1 lfX4_42 dX4_addAsk_2 (hq).1 (hq).2.1 rfl ?_
  refine xa_iconst (pc := 5) (v := 1) dX4_addAsk_5 (by decide) ?_
  refine xa_iload_n (pc := 6) dX4_addAsk_6 rfl ?_
  refine xa_ishl (pc := 7) dX4_addAsk_7 ?_
  refine xa_ior (pc := 8) dX4_addAsk_8 ?_
  refine xa_putI (pc := 9) 4 1 lpX4_42 dX4_addAsk_9 (hq).1 (hq).2.1 rfl rfl rfl ?_
  refine xa_aload_n (pc := 12) dX4_addAsk_12 rfl ?_
  refine xa_getA (pc := 13) 4 2 (q + 3) lfX4_9 dX4_addAsk_13 (hq).1 (hq).2.1 rfl (cl_r2 hq) ?_
  refine xa_iload_n (pc := 16) dX4_addAsk_16 rfl ?_
  refine xa_iload_n (pc := 17) dX4_addAsk_17 rfl ?_
  refine xa_iastC (pc := 18) k dX4_addAsk_18 (cl_m2 hq) (cl_k2 hq) (cl_n2 hq) rfl (by omega) (by decide) ?_
  refine xa_aload_n (pc := 19) dX4_addAsk_19 rfl ?_
  refine xa_getA (pc := 20) 4 3 (q + 4) lfX4_15 dX4_addAsk_20 (hq).1 (hq).2.1 rfl (cl_r3 hq) ?_
  refine xa_iload_n (pc := 23) dX4_addAsk_23 rfl ?_
  refine xa_iload_n (pc := 24) dX4_addAsk_24 rfl ?_
  refine xa_iastC (pc := 25) k dX4_addAsk_25 (cl_m3 hq) (cl_k3 hq) (cl_n3 hq) rfl (by omega) (by decide) ?_
  refine xa_aload_n (pc := 26) dX4_addAsk_26 rfl ?_
  refine xa_getA (pc := 27) 4 4 (q + 5) lfX4_18 dX4_addAsk_27 (hq).1 (hq).2.1 rfl (cl_r4 hq) ?_
  refine xa_iload_n (pc := 30) dX4_addAsk_30 rfl ?_
  refine xa_iload (pc := 31) dX4_addAsk_31 rfl ?_
  refine xa_iastC (pc := 33) k dX4_addAsk_33 (cl_m4 hq) (cl_k4 hq) (cl_n4 hq) rfl (by omega) (by decide) ?_
  exact xa_vret dX4_addAsk_34 rfl ⟨rfl, rfl, rfl⟩
def lx_addClaim (T : xa_AH) (q s : Nat) (n b : Int32) : xa_AH := (xa_up (xa_up (xa_up T q 5 (bset (T q 5) s)) (q + 7) s n) (q + 8) s b)
set_option maxHeartbeats 4000000 in
theorem cx_addClaim (E : xa_EV) {L : List Nat} {T : xa_AH} {R : xa_AR} {q : Nat} (hq : cs_l L R q) {s : Nat} {xs : Int32} (es : xs = nI s) (hs : s < 32) (n b : Int32) : xa_Ct E mX4_addClaim [.ref q, .int xs, .int n, .int b] L T R (xa_pV (lx_addClaim T q s n b) R) := by
  subst es
  refine xa_Ct.of [some (.ref q), some (.int (nI s)), some (.int n), some (.int b)] rfl (Nat.le_of_ble_eq_true rfl) (by simp [Value.category]) rfl ?_
  refine xa_aload_n (pc := 0) dX4_addClaim_0 rfl ?_
  refine xa_dup (pc := 1) dX4_addClaim_1 rfl ?_
  refine xa_getI (pc := 2) 4 5 lfX4_46 dX4_addClaim_2 (hq).1 (hq).2.1 rfl ?_
  refine xa_iconst (pc := 5) (v := 1) dX4_addClaim_5 (by decide) ?_
  refine xa_iload_n (pc := 6) dX4_addClaim_6 rfl ?_
  refine xa_ishl (pc := 7) dX4_addClaim_7 ?_
  refine xa_ior (pc := 8) dX4_addClaim_8 ?_
  refine xa_putI (pc := 9) 4 5 lpX4_46 dX4_addClaim_9 (hq).1 (hq).2.1 rfl rfl rfl ?_
  refine xa_aload_n (pc := 12) dX4_addClaim_12 rfl ?_
  refine xa_getA (pc := 13) 4 6 (q + 7) lfX4_21 dX4_addClaim_13 (hq).1 (hq).2.1 rfl (cl_r6 hq) ?_
  refine xa_iload_n (pc := 16) dX4_addClaim_16 rfl ?_
  refine xa_iload_n (pc := 17) dX4_addClaim_17 rfl ?_
  refine xa_iastC (pc := 18) s dX4_addClaim_18 (cl_m6 hq) (cl_k6 hq) (cl_n6 hq) rfl (by omega) (by decide) ?_
  refine xa_aload_n (pc := 19) dX4_addClaim_19 rfl ?_
  refine xa_getA (pc := 20) 4 7 (q + 8) lfX4_24 dX4_addClaim_20 (hq).1 (hq).2.1 rfl (cl_r7 hq) ?_
  refine xa_iload_n (pc := 23) dX4_addClaim_23 rfl ?_
  refine xa_iload_n (pc := 24) dX4_addClaim_24 rfl ?_
  refine xa_iastC (pc := 25) s dX4_addClaim_25 (cl_m7 hq) (cl_k7 hq) (cl_n7 hq) rfl (by omega) (by decide) ?_
  exact xa_vret dX4_addClaim_26 rfl ⟨rfl, rfl, rfl⟩
def lx_addBye (T : xa_AH) (q s : Nat) (b : Int32) : xa_AH := (xa_up (xa_up T q 8 (bset (T q 8) s)) (q + 10) s b)
set_option maxHeartbeats 4000000 in
theorem cx_addBye (E : xa_EV) {L : List Nat} {T : xa_AH} {R : xa_AR} {q : Nat} (hq : cs_l L R q) {s : Nat} {xs : Int32} (es : xs = nI s) (hs : s < 32) (b : Int32) : xa_Ct E mX4_addBye [.ref q, .int xs, .int b] L T R (xa_pV (lx_addBye T q s b) R) := by
  subst es
  refine xa_Ct.of [some (.ref q), some (.int (nI s)), some (.int b)] rfl (Nat.le_of_ble_eq_true rfl) (by simp [Value.category]) rfl ?_
  refine xa_aload_n (pc := 0) dX4_addBye_0 rfl ?_
  refine xa_dup (pc := 1) dX4_addBye_1 rfl ?_
  refine xa_getI (pc := 2) 4 8 lfX4_49 dX4_addBye_2 (hq).1 (hq).2.1 rfl ?_
  refine xa_iconst (pc := 5) (v := 1) dX4_addBye_5 (by decide) ?_
  refine xa_iload_n (pc := 6) dX4_addBye_6 rfl ?_
  refine xa_ishl (pc := 7) dX4_addBye_7 ?_
  refine xa_ior (pc := 8) dX4_addBye_8 ?_
  refine xa_putI (pc := 9) 4 8 lpX4_49 dX4_addBye_9 (hq).1 (hq).2.1 rfl rfl rfl ?_
  refine xa_aload_n (pc := 12) dX4_addBye_12 rfl ?_
  refine xa_getA (pc := 13) 4 9 (q + 10) lfX4_27 dX4_addBye_13 (hq).1 (hq).2.1 rfl (cl_r9 hq) ?_
  refine xa_iload_n (pc := 16) dX4_addBye_16 rfl ?_
  refine xa_iload_n (pc := 17) dX4_addBye_17 rfl ?_
  refine xa_iastC (pc := 18) s dX4_addBye_18 (cl_m9 hq) (cl_k9 hq) (cl_n9 hq) rfl (by omega) (by decide) ?_
  exact xa_vret dX4_addBye_19 rfl ⟨rfl, rfl, rfl⟩
def lx_addTelling (T : xa_AH) (q s : Nat) (n m l b : Int32) : xa_AH := (xa_up (xa_up (xa_up (xa_up (xa_up T q 10 (bset (T q 10) s)) (q + 12) s n) (q + 13) s m) (q + 14) s l) (q + 15) s b)
set_option maxHeartbeats 4000000 in
theorem cx_addTelling (E : xa_EV) {L : List Nat} {T : xa_AH} {R : xa_AR} {q : Nat} (hq : cs_l L R q) {s : Nat} {xs : Int32} (es : xs = nI s) (hs : s < 32) (n m l b : Int32) : xa_Ct E mX4_addTelling [.ref q, .int xs, .int n, .int m, .int l, .int b] L T R (xa_pV (lx_addTelling T q s n m l b) R) := by
  subst es
  refine xa_Ct.of [some (.ref q), some (.int (nI s)), some (.int n), some (.int m), some (.int l), some (.int b)] rfl (Nat.le_of_ble_eq_true rfl) (by simp [Value.category]) rfl ?_
  refine xa_aload_n (pc := 0) dX4_addTelling_0 rfl ?_
  refine xa_dup (pc := 1) dX4_addTelling_1 rfl ?_
  refine xa_getI (pc := 2) 4 10 lfX4_52 dX4_addTelling_2 (hq).1 (hq).2.1 rfl ?_
  refine xa_iconst (pc := 5) (v := 1) dX4_addTelling_5 (by decide) ?_
  refine xa_iload_n (pc := 6) dX4_addTelling_6 rfl ?_
  refine xa_ishl (pc := 7) dX4_addTelling_7 ?_
  refine xa_ior (pc := 8) dX4_addTelling_8 ?_
  refine xa_putI (pc := 9) 4 10 lpX4_52 dX4_addTelling_9 (hq).1 (hq).2.1 rfl rfl rfl ?_
  refine xa_aload_n (pc := 12) dX4_addTelling_12 rfl ?_
  refine xa_getA (pc := 13) 4 11 (q + 12) lfX4_30 dX4_addTelling_13 (hq).1 (hq).2.1 rfl (cl_r11 hq) ?_
  refine xa_iload_n (pc := 16) dX4_addTelling_16 rfl ?_
  refine xa_iload_n (pc := 17) dX4_addTelling_17 rfl ?_
  refine xa_iastC (pc := 18) s dX4_addTelling_18 (cl_m11 hq) (cl_k11 hq) (cl_n11 hq) rfl (by omega) (by decide) ?_
  refine xa_aload_n (pc := 19) dX4_addTelling_19 rfl ?_
  refine xa_getA (pc := 20) 4 12 (q + 13) lfX4_33 dX4_addTelling_20 (hq).1 (hq).2.1 rfl (cl_r12 hq) ?_
  refine xa_iload_n (pc := 23) dX4_addTelling_23 rfl ?_
  refine xa_iload_n (pc := 24) dX4_addTelling_24 rfl ?_
  refine xa_iastC (pc := 25) s dX4_addTelling_25 (cl_m12 hq) (cl_k12 hq) (cl_n12 hq) rfl (by omega) (by decide) ?_
  refine xa_aload_n (pc := 26) dX4_addTelling_26 rfl ?_
  refine xa_getA (pc := 27) 4 13 (q + 14) lfX4_36 dX4_addTelling_27 (hq).1 (hq).2.1 rfl (cl_r13 hq) ?_
  refine xa_iload_n (pc := 30) dX4_addTelling_30 rfl ?_
  refine xa_iload (pc := 31) dX4_addTelling_31 rfl ?_
  refine xa_iastC (pc := 33) s dX4_addTelling_33 (cl_m13 hq) (cl_k13 hq) (cl_n13 hq) rfl (by omega) (by decide) ?_
  refine xa_aload_n (pc := 34) dX4_addTelling_34 rfl ?_
  refine xa_getA (pc := 35) 4 14 (q + 15) lfX4_39 dX4_addTelling_35 (hq).1 (hq).2.1 rfl (cl_r14 hq) ?_
  refine xa_iload_n (pc := 38) dX4_addTelling_38 rfl ?_
  refine xa_iload (pc := 39) dX4_addTelling_39 rfl ?_
  refine xa_iastC (pc := 41) s dX4_addTelling_41 (cl_m14 hq) (cl_k14 hq) (cl_n14 hq) rfl (by omega) (by decide) ?_
  exact xa_vret dX4_addTelling_42 rfl ⟨rfl, rfl, rfl⟩
def lx_takeAsk (T : xa_AH) (q r k o : Nat) : xa_AH := if bt (T r 1) k = true ∧ bt (T (r + 5) k ||| 1 <<< (T r 0 &&& 31)) o = false ∧ bt (T q 1) k = false then lx_addAsk T q k (T (r + 3) k) (T (r + 4) k) (T (r + 5) k ||| 1 <<< (T r 0 &&& 31)) else T
set_option maxHeartbeats 4000000 in
theorem cx_takeAsk (E : xa_EV) {L : List Nat} {T : xa_AH} {R : xa_AR} {q : Nat} (hq : cs_l L R q) {r : Nat} (hr : cs_l L R r) {k : Nat} {xk : Int32} (ek : xk = nI k) (hk : k < 16) {o : Nat} {xo : Int32} (eo : xo = nI o) (ho : o < 32)  : xa_Ct E mX4_takeAsk [.ref q, .ref r, .int xk, .int xo] L T R (xa_pV (lx_takeAsk T q r k o) R) := by
  subst ek; subst eo
  refine xa_Ct.of [some (.ref q), some (.ref r), some (.int (nI k)), some (.int (nI o)), none] rfl (Nat.le_of_ble_eq_true rfl) (by simp [Value.category]) rfl ?_
  refine xa_aload_n (pc := 0) dX4_takeAsk_0 rfl ?_
  refine xa_getA (pc := 1) 4 4 (r + 5) lfX4_18 dX4_takeAsk_1 (hr).1 (hr).2.1 rfl (cl_r4 hr) ?_
  refine xa_iload_n (pc := 4) dX4_takeAsk_4 rfl ?_
  refine xa_ialdC (pc := 5) k _ dX4_takeAsk_5 (cl_m4 hr) (cl_k4 hr) (cl_n4 hr) rfl (by omega) (by decide) rfl ?_
  refine xa_iconst (pc := 6) (v := 1) dX4_takeAsk_6 (by decide) ?_
  refine xa_aload_n (pc := 7) dX4_takeAsk_7 rfl ?_
  refine xa_getI (pc := 8) 4 0 lfX4_65 dX4_takeAsk_8 (hr).1 (hr).2.1 rfl ?_
  refine xa_ishl (pc := 11) dX4_takeAsk_11 ?_
  refine xa_ior (pc := 12) dX4_takeAsk_12 ?_
  refine xa_istore (pc := 13) dX4_takeAsk_13 (by decide) ?_
  refine xa_aload_n (pc := 15) dX4_takeAsk_15 rfl ?_
  refine xa_iload_n (pc := 16) dX4_takeAsk_16 rfl ?_
  refine xa_callV (pc := 17) (hr).1 (hr).2.1 rfl lcX4_68 dX4_takeAsk_17 (cx_lhasAsk E hr (s := k) rfl (by omega)) rfl rfl (by decide) (Nat.le_of_ble_eq_true rfl) (by decide) ?_
  rintro _ _ _ ⟨rfl, rfl, rfl⟩
  refine xa_if_eq (pc := 20) 59 dX4_takeAsk_20 (by decide) (fun h20 => ?_) (fun h20 => ?_)
  · have h20 := xa_b_0.mp h20
    exact xa_vret dX4_takeAsk_59 rfl ⟨rfl, if_neg (by simp [h20]), rfl⟩
  · have h20 := xa_b_n0.mp h20
    refine xa_iload (pc := 23) dX4_takeAsk_23 rfl ?_
    refine xa_iload_n (pc := 25) dX4_takeAsk_25 rfl ?_
    refine xa_callSN (pc := 26) lcX4_61 dX4_takeAsk_26 (cx_isIn E _ (n := o) rfl (by omega)) rfl rfl (by decide) (Nat.le_of_ble_eq_true rfl) (by decide) ?_
    rintro _ _ _ ⟨rfl, rfl, rfl⟩
    refine xa_if_ne (pc := 29) 59 dX4_takeAsk_29 (by decide) (fun h29 => ?_) (fun h29 => ?_)
    · have h29 := xa_b_n0.mp h29
      exact xa_vret dX4_takeAsk_59 rfl ⟨rfl, if_neg (by simp [h20, h29]), rfl⟩
    · have h29 := xa_b_0.mp h29
      refine xa_aload_n (pc := 32) dX4_takeAsk_32 rfl ?_
      refine xa_iload_n (pc := 33) dX4_takeAsk_33 rfl ?_
      refine xa_callV (pc := 34) (hq).1 (hq).2.1 rfl lcX4_68 dX4_takeAsk_34 (cx_lhasAsk E hq (s := k) rfl (by omega)) rfl rfl (by decide) (Nat.le_of_ble_eq_true rfl) (by decide) ?_
      rintro _ _ _ ⟨rfl, rfl, rfl⟩
      refine xa_if_ne (pc := 37) 59 dX4_takeAsk_37 (by decide) (fun h37 => ?_) (fun h37 => ?_)
      · have h37 := xa_b_n0.mp h37
        exact xa_vret dX4_takeAsk_59 rfl ⟨rfl, if_neg (by simp [h20, h29, h37]), rfl⟩
      · have h37 := xa_b_0.mp h37
        refine xa_aload_n (pc := 40) dX4_takeAsk_40 rfl ?_
        refine xa_iload_n (pc := 41) dX4_takeAsk_41 rfl ?_
        refine xa_aload_n (pc := 42) dX4_takeAsk_42 rfl ?_
        refine xa_getA (pc := 43) 4 2 (r + 3) lfX4_9 dX4_takeAsk_43 (hr).1 (hr).2.1 rfl (cl_r2 hr) ?_
        refine xa_iload_n (pc := 46) dX4_takeAsk_46 rfl ?_
        refine xa_ialdC (pc := 47) k _ dX4_takeAsk_47 (cl_m2 hr) (cl_k2 hr) (cl_n2 hr) rfl (by omega) (by decide) rfl ?_
        refine xa_aload_n (pc := 48) dX4_takeAsk_48 rfl ?_
        refine xa_getA (pc := 49) 4 3 (r + 4) lfX4_15 dX4_takeAsk_49 (hr).1 (hr).2.1 rfl (cl_r3 hr) ?_
        refine xa_iload_n (pc := 52) dX4_takeAsk_52 rfl ?_
        refine xa_ialdC (pc := 53) k _ dX4_takeAsk_53 (cl_m3 hr) (cl_k3 hr) (cl_n3 hr) rfl (by omega) (by decide) rfl ?_
        refine xa_iload (pc := 54) dX4_takeAsk_54 rfl ?_
        refine xa_callV (pc := 56) (hq).1 (hq).2.1 rfl lcX4_72 dX4_takeAsk_56 (cx_addAsk E hq (k := k) rfl (by omega) _ _ _) rfl rfl (by decide) (Nat.le_of_ble_eq_true rfl) (by decide) ?_
        rintro _ _ _ ⟨rfl, rfl, rfl⟩
        exact xa_vret dX4_takeAsk_59 rfl ⟨rfl, if_pos (by simp [h20, h29, h37]), rfl⟩
def lx_takeClaim (T : xa_AH) (q r s o : Nat) : xa_AH := if bt (T r 5) s = true ∧ bt (T (r + 8) s ||| 1 <<< (T r 0 &&& 31)) o = false then lx_addClaim T q s (T (r + 7) s) (T (r + 8) s ||| 1 <<< (T r 0 &&& 31)) else T
set_option maxHeartbeats 4000000 in
theorem cx_takeClaim (E : xa_EV) {L : List Nat} {T : xa_AH} {R : xa_AR} {q : Nat} (hq : cs_l L R q) {r : Nat} (hr : cs_l L R r) {s : Nat} {xs : Int32} (es : xs = nI s) (hs : s < 32) {o : Nat} {xo : Int32} (eo : xo = nI o) (ho : o < 32)  : xa_Ct E mX4_takeClaim [.ref q, .ref r, .int xs, .int xo] L T R (xa_pV (lx_takeClaim T q r s o) R) := by
  subst es; subst eo
  refine xa_Ct.of [some (.ref q), some (.ref r), some (.int (nI s)), some (.int (nI o)), none] rfl (Nat.le_of_ble_eq_true rfl) (by simp [Value.category]) rfl ?_
  refine xa_aload_n (pc := 0) dX4_takeClaim_0 rfl ?_
  refine xa_getA (pc := 1) 4 7 (r + 8) lfX4_24 dX4_takeClaim_1 (hr).1 (hr).2.1 rfl (cl_r7 hr) ?_
  refine xa_iload_n (pc := 4) dX4_takeClaim_4 rfl ?_
  refine xa_ialdC (pc := 5) s _ dX4_takeClaim_5 (cl_m7 hr) (cl_k7 hr) (cl_n7 hr) rfl (by omega) (by decide) rfl ?_
  refine xa_iconst (pc := 6) (v := 1) dX4_takeClaim_6 (by decide) ?_
  refine xa_aload_n (pc := 7) dX4_takeClaim_7 rfl ?_
  refine xa_getI (pc := 8) 4 0 lfX4_65 dX4_takeClaim_8 (hr).1 (hr).2.1 rfl ?_
  refine xa_ishl (pc := 11) dX4_takeClaim_11 ?_
  refine xa_ior (pc := 12) dX4_takeClaim_12 ?_
  refine xa_istore (pc := 13) dX4_takeClaim_13 (by decide) ?_
  refine xa_aload_n (pc := 15) dX4_takeClaim_15 rfl ?_
  refine xa_iload_n (pc := 16) dX4_takeClaim_16 rfl ?_
  refine xa_callV (pc := 17) (hr).1 (hr).2.1 rfl lcX4_76 dX4_takeClaim_17 (cx_lhasClaim E hr (s := s) rfl (by omega)) rfl rfl (by decide) (Nat.le_of_ble_eq_true rfl) (by decide) ?_
  rintro _ _ _ ⟨rfl, rfl, rfl⟩
  refine xa_if_eq (pc := 20) 45 dX4_takeClaim_20 (by decide) (fun h20 => ?_) (fun h20 => ?_)
  · have h20 := xa_b_0.mp h20
    exact xa_vret dX4_takeClaim_45 rfl ⟨rfl, if_neg (by simp [h20]), rfl⟩
  · have h20 := xa_b_n0.mp h20
    refine xa_iload (pc := 23) dX4_takeClaim_23 rfl ?_
    refine xa_iload_n (pc := 25) dX4_takeClaim_25 rfl ?_
    refine xa_callSN (pc := 26) lcX4_61 dX4_takeClaim_26 (cx_isIn E _ (n := o) rfl (by omega)) rfl rfl (by decide) (Nat.le_of_ble_eq_true rfl) (by decide) ?_
    rintro _ _ _ ⟨rfl, rfl, rfl⟩
    refine xa_if_ne (pc := 29) 45 dX4_takeClaim_29 (by decide) (fun h29 => ?_) (fun h29 => ?_)
    · have h29 := xa_b_n0.mp h29
      exact xa_vret dX4_takeClaim_45 rfl ⟨rfl, if_neg (by simp [h20, h29]), rfl⟩
    · have h29 := xa_b_0.mp h29
      refine xa_aload_n (pc := 32) dX4_takeClaim_32 rfl ?_
      refine xa_iload_n (pc := 33) dX4_takeClaim_33 rfl ?_
      refine xa_aload_n (pc := 34) dX4_takeClaim_34 rfl ?_
      refine xa_getA (pc := 35) 4 6 (r + 7) lfX4_21 dX4_takeClaim_35 (hr).1 (hr).2.1 rfl (cl_r6 hr) ?_
      refine xa_iload_n (pc := 38) dX4_takeClaim_38 rfl ?_
      refine xa_ialdC (pc := 39) s _ dX4_takeClaim_39 (cl_m6 hr) (cl_k6 hr) (cl_n6 hr) rfl (by omega) (by decide) rfl ?_
      refine xa_iload (pc := 40) dX4_takeClaim_40 rfl ?_
      refine xa_callV (pc := 42) (hq).1 (hq).2.1 rfl lcX4_79 dX4_takeClaim_42 (cx_addClaim E hq (s := s) rfl (by omega) _ _) rfl rfl (by decide) (Nat.le_of_ble_eq_true rfl) (by decide) ?_
      rintro _ _ _ ⟨rfl, rfl, rfl⟩
      exact xa_vret dX4_takeClaim_45 rfl ⟨rfl, if_pos (by simp [h20, h29]), rfl⟩
def lx_takeBye (T : xa_AH) (q r s o : Nat) : xa_AH := if bt (T r 8) s = true ∧ bt (T (r + 10) s ||| 1 <<< (T r 0 &&& 31)) o = false then lx_addBye T q s (T (r + 10) s ||| 1 <<< (T r 0 &&& 31)) else T
set_option maxHeartbeats 4000000 in
theorem cx_takeBye (E : xa_EV) {L : List Nat} {T : xa_AH} {R : xa_AR} {q : Nat} (hq : cs_l L R q) {r : Nat} (hr : cs_l L R r) {s : Nat} {xs : Int32} (es : xs = nI s) (hs : s < 32) {o : Nat} {xo : Int32} (eo : xo = nI o) (ho : o < 32)  : xa_Ct E mX4_takeBye [.ref q, .ref r, .int xs, .int xo] L T R (xa_pV (lx_takeBye T q r s o) R) := by
  subst es; subst eo
  refine xa_Ct.of [some (.ref q), some (.ref r), some (.int (nI s)), some (.int (nI o)), none] rfl (Nat.le_of_ble_eq_true rfl) (by simp [Value.category]) rfl ?_
  refine xa_aload_n (pc := 0) dX4_takeBye_0 rfl ?_
  refine xa_getA (pc := 1) 4 9 (r + 10) lfX4_27 dX4_takeBye_1 (hr).1 (hr).2.1 rfl (cl_r9 hr) ?_
  refine xa_iload_n (pc := 4) dX4_takeBye_4 rfl ?_
  refine xa_ialdC (pc := 5) s _ dX4_takeBye_5 (cl_m9 hr) (cl_k9 hr) (cl_n9 hr) rfl (by omega) (by decide) rfl ?_
  refine xa_iconst (pc := 6) (v := 1) dX4_takeBye_6 (by decide) ?_
  refine xa_aload_n (pc := 7) dX4_takeBye_7 rfl ?_
  refine xa_getI (pc := 8) 4 0 lfX4_65 dX4_takeBye_8 (hr).1 (hr).2.1 rfl ?_
  refine xa_ishl (pc := 11) dX4_takeBye_11 ?_
  refine xa_ior (pc := 12) dX4_takeBye_12 ?_
  refine xa_istore (pc := 13) dX4_takeBye_13 (by decide) ?_
  refine xa_aload_n (pc := 15) dX4_takeBye_15 rfl ?_
  refine xa_iload_n (pc := 16) dX4_takeBye_16 rfl ?_
  refine xa_callV (pc := 17) (hr).1 (hr).2.1 rfl lcX4_83 dX4_takeBye_17 (cx_lhasBye E hr (s := s) rfl (by omega)) rfl rfl (by decide) (Nat.le_of_ble_eq_true rfl) (by decide) ?_
  rintro _ _ _ ⟨rfl, rfl, rfl⟩
  refine xa_if_eq (pc := 20) 39 dX4_takeBye_20 (by decide) (fun h20 => ?_) (fun h20 => ?_)
  · have h20 := xa_b_0.mp h20
    exact xa_vret dX4_takeBye_39 rfl ⟨rfl, if_neg (by simp [h20]), rfl⟩
  · have h20 := xa_b_n0.mp h20
    refine xa_iload (pc := 23) dX4_takeBye_23 rfl ?_
    refine xa_iload_n (pc := 25) dX4_takeBye_25 rfl ?_
    refine xa_callSN (pc := 26) lcX4_61 dX4_takeBye_26 (cx_isIn E _ (n := o) rfl (by omega)) rfl rfl (by decide) (Nat.le_of_ble_eq_true rfl) (by decide) ?_
    rintro _ _ _ ⟨rfl, rfl, rfl⟩
    refine xa_if_ne (pc := 29) 39 dX4_takeBye_29 (by decide) (fun h29 => ?_) (fun h29 => ?_)
    · have h29 := xa_b_n0.mp h29
      exact xa_vret dX4_takeBye_39 rfl ⟨rfl, if_neg (by simp [h20, h29]), rfl⟩
    · have h29 := xa_b_0.mp h29
      refine xa_aload_n (pc := 32) dX4_takeBye_32 rfl ?_
      refine xa_iload_n (pc := 33) dX4_takeBye_33 rfl ?_
      refine xa_iload (pc := 34) dX4_takeBye_34 rfl ?_
      refine xa_callV (pc := 36) (hq).1 (hq).2.1 rfl lcX4_86 dX4_takeBye_36 (cx_addBye E hq (s := s) rfl (by omega) _) rfl rfl (by decide) (Nat.le_of_ble_eq_true rfl) (by decide) ?_
      rintro _ _ _ ⟨rfl, rfl, rfl⟩
      exact xa_vret dX4_takeBye_39 rfl ⟨rfl, if_pos (by simp [h20, h29]), rfl⟩
def lx_takeTelling (T : xa_AH) (q r s o : Nat) : xa_AH := if bt (T r 10) s = true ∧ bt (T (r + 15) s ||| 1 <<< (T r 0 &&& 31)) o = false ∧ ¬ T (r + 14) s - 1 ≤ 0 then lx_addTelling T q s (T (r + 12) s) (T (r + 13) s) (T (r + 14) s - 1) (T (r + 15) s ||| 1 <<< (T r 0 &&& 31)) else T
set_option maxHeartbeats 4000000 in
theorem cx_takeTelling (E : xa_EV) {L : List Nat} {T : xa_AH} {R : xa_AR} {q : Nat} (hq : cs_l L R q) {r : Nat} (hr : cs_l L R r) {s : Nat} {xs : Int32} (es : xs = nI s) (hs : s < 32) {o : Nat} {xo : Int32} (eo : xo = nI o) (ho : o < 32)  : xa_Ct E mX4_takeTelling [.ref q, .ref r, .int xs, .int xo] L T R (xa_pV (lx_takeTelling T q r s o) R) := by
  subst es; subst eo
  refine xa_Ct.of [some (.ref q), some (.ref r), some (.int (nI s)), some (.int (nI o)), none, none] rfl (Nat.le_of_ble_eq_true rfl) (by simp [Value.category]) rfl ?_
  refine xa_aload_n (pc := 0) dX4_takeTelling_0 rfl ?_
  refine xa_getA (pc := 1) 4 14 (r + 15) lfX4_39 dX4_takeTelling_1 (hr).1 (hr).2.1 rfl (cl_r14 hr) ?_
  refine xa_iload_n (pc := 4) dX4_takeTelling_4 rfl ?_
  refine xa_ialdC (pc := 5) s _ dX4_takeTelling_5 (cl_m14 hr) (cl_k14 hr) (cl_n14 hr) rfl (by omega) (by decide) rfl ?_
  refine xa_iconst (pc := 6) (v := 1) dX4_takeTelling_6 (by decide) ?_
  refine xa_aload_n (pc := 7) dX4_takeTelling_7 rfl ?_
  refine xa_getI (pc := 8) 4 0 lfX4_65 dX4_takeTelling_8 (hr).1 (hr).2.1 rfl ?_
  refine xa_ishl (pc := 11) dX4_takeTelling_11 ?_
  refine xa_ior (pc := 12) dX4_takeTelling_12 ?_
  refine xa_istore (pc := 13) dX4_takeTelling_13 (by decide) ?_
  refine xa_aload_n (pc := 15) dX4_takeTelling_15 rfl ?_
  refine xa_getA (pc := 16) 4 13 (r + 14) lfX4_36 dX4_takeTelling_16 (hr).1 (hr).2.1 rfl (cl_r13 hr) ?_
  refine xa_iload_n (pc := 19) dX4_takeTelling_19 rfl ?_
  refine xa_ialdC (pc := 20) s _ dX4_takeTelling_20 (cl_m13 hr) (cl_k13 hr) (cl_n13 hr) rfl (by omega) (by decide) rfl ?_
  refine xa_iconst (pc := 21) (v := 1) dX4_takeTelling_21 (by decide) ?_
  refine xa_isub (pc := 22) dX4_takeTelling_22 ?_
  refine xa_istore (pc := 23) dX4_takeTelling_23 (by decide) ?_
  refine xa_aload_n (pc := 25) dX4_takeTelling_25 rfl ?_
  refine xa_iload_n (pc := 26) dX4_takeTelling_26 rfl ?_
  refine xa_callV (pc := 27) (hr).1 (hr).2.1 rfl lcX4_90 dX4_takeTelling_27 (cx_lhasTelling E hr (s := s) rfl (by omega)) rfl rfl (by decide) (Nat.le_of_ble_eq_true rfl) (by decide) ?_
  rintro _ _ _ ⟨rfl, rfl, rfl⟩
  refine xa_if_eq (pc := 30) 68 dX4_takeTelling_30 (by decide) (fun h30 => ?_) (fun h30 => ?_)
  · have h30 := xa_b_0.mp h30
    exact xa_vret dX4_takeTelling_68 rfl ⟨rfl, if_neg (by simp [h30]), rfl⟩
  · have h30 := xa_b_n0.mp h30
    refine xa_iload (pc := 33) dX4_takeTelling_33 rfl ?_
    refine xa_iload_n (pc := 35) dX4_takeTelling_35 rfl ?_
    refine xa_callSN (pc := 36) lcX4_61 dX4_takeTelling_36 (cx_isIn E _ (n := o) rfl (by omega)) rfl rfl (by decide) (Nat.le_of_ble_eq_true rfl) (by decide) ?_
    rintro _ _ _ ⟨rfl, rfl, rfl⟩
    refine xa_if_ne (pc := 39) 68 dX4_takeTelling_39 (by decide) (fun h39 => ?_) (fun h39 => ?_)
    · have h39 := xa_b_n0.mp h39
      exact xa_vret dX4_takeTelling_68 rfl ⟨rfl, if_neg (by simp [h30, h39]), rfl⟩
    · have h39 := xa_b_0.mp h39
      refine xa_iload (pc := 42) dX4_takeTelling_42 rfl ?_
      refine xa_if_le (pc := 44) 68 dX4_takeTelling_44 (by decide) (fun h44 => ?_) (fun h44 => ?_)
      · exact xa_vret dX4_takeTelling_68 rfl ⟨rfl, if_neg (by simp [h30, h39, h44]), rfl⟩
      · refine xa_aload_n (pc := 47) dX4_takeTelling_47 rfl ?_
        refine xa_iload_n (pc := 48) dX4_takeTelling_48 rfl ?_
        refine xa_aload_n (pc := 49) dX4_takeTelling_49 rfl ?_
        refine xa_getA (pc := 50) 4 11 (r + 12) lfX4_30 dX4_takeTelling_50 (hr).1 (hr).2.1 rfl (cl_r11 hr) ?_
        refine xa_iload_n (pc := 53) dX4_takeTelling_53 rfl ?_
        refine xa_ialdC (pc := 54) s _ dX4_takeTelling_54 (cl_m11 hr) (cl_k11 hr) (cl_n11 hr) rfl (by omega) (by decide) rfl ?_
        refine xa_aload_n (pc := 55) dX4_takeTelling_55 rfl ?_
        refine xa_getA (pc := 56) 4 12 (r + 13) lfX4_33 dX4_takeTelling_56 (hr).1 (hr).2.1 rfl (cl_r12 hr) ?_
        refine xa_iload_n (pc := 59) dX4_takeTelling_59 rfl ?_
        refine xa_ialdC (pc := 60) s _ dX4_takeTelling_60 (cl_m12 hr) (cl_k12 hr) (cl_n12 hr) rfl (by omega) (by decide) rfl ?_
        refine xa_iload (pc := 61) dX4_takeTelling_61 rfl ?_
        refine xa_iload (pc := 63) dX4_takeTelling_63 rfl ?_
        refine xa_callV (pc := 65) (hq).1 (hq).2.1 rfl lcX4_93 dX4_takeTelling_65 (cx_addTelling E hq (s := s) rfl (by omega) _ _ _ _) rfl rfl (by decide) (Nat.le_of_ble_eq_true rfl) (by decide) ?_
        rintro _ _ _ ⟨rfl, rfl, rfl⟩
        exact xa_vret dX4_takeTelling_68 rfl ⟨rfl, if_pos (by simp [h30, h39, h44]), rfl⟩
set_option maxHeartbeats 4000000 in
theorem cx_hold (E : xa_EV) {L : List Nat} {T : xa_AH} {R : xa_AR} {s : Nat} (hm : ci s 128 ∈ L) (t : Int32) : xa_Ct E mX5_hold [.ref (ci s 128), .int t] L T R (xa_pV (xa_up (xa_up T (ci s 128) 7 2) (ci s 128) 9 t) R) := by
  refine xa_Ct.of [some (.ref (ci s 128)), some (.int t)] rfl (Nat.le_of_ble_eq_true rfl) (by simp [Value.category]) rfl ?_
  refine xa_aload_n (pc := 0) dX5_hold_0 rfl ?_
  refine xa_iconst (pc := 1) (v := 2) dX5_hold_1 (by decide) ?_
  refine xa_putI (pc := 2) 5 7 lpX5_9 dX5_hold_2 hm (kd_128 _) rfl rfl rfl ?_
  refine xa_aload_n (pc := 5) dX5_hold_5 rfl ?_
  refine xa_iload_n (pc := 6) dX5_hold_6 rfl ?_
  refine xa_putI (pc := 7) 5 9 lpX5_41 dX5_hold_7 hm (kd_128 _) rfl rfl rfl ?_
  exact xa_vret dX5_hold_10 rfl ⟨rfl, rfl, rfl⟩
def sx_bye (T : xa_AH) (s : Nat) : Int32 := if ¬ T (ci s 128) 10 = 0 ∨ T (ci s 128) 7 = 2 then 1 else 0
def sx_end (T : xa_AH) (s : Nat) : xa_AH := (xa_up (xa_up T (ci s 128) 10 (sx_bye T s)) (ci s 128) 7 0)
def sx_anew (T : xa_AH) (s : Nat) (n : Int32) : xa_AH := (xa_up (xa_up (xa_up (xa_up (xa_up T (ci s 128) 10 (sx_bye T s)) (ci s 128) 5 n) (ci s 128) 7 1) (ci s 128) 8 3) (ci s 128) 11 (T (ci s 128) 11 + 1))
set_option maxHeartbeats 4000000 in
theorem cx_end (E : xa_EV) {L : List Nat} {T : xa_AH} {R : xa_AR} {s : Nat} (hm : ci s 128 ∈ L)  : xa_Ct E mX5_end [.ref (ci s 128)] L T R (xa_pV (sx_end T s) R) := by
  refine xa_Ct.of [some (.ref (ci s 128))] rfl (Nat.le_of_ble_eq_true rfl) (by simp [Value.category]) rfl ?_
  refine xa_aload_n (pc := 0) dX5_end_0 rfl ?_
  refine xa_aload_n (pc := 1) dX5_end_1 rfl ?_
  refine xa_getI (pc := 2) 5 10 lfX5_44 dX5_end_2 hm (kd_128 _) rfl ?_
  refine xa_if_ne (pc := 5) 16 dX5_end_5 (by decide) (fun h5 => ?_) (fun h5 => ?_)
  · refine xa_iconst (pc := 16) (v := 1) dX5_end_16 (by decide) ?_
    refine xa_goto (pc := 17) (tgt := 21) dX5_end_17 (by decide) ?_
    refine xa_putI (pc := 21) 5 10 lpX5_44 dX5_end_21 hm (kd_128 _) rfl rfl rfl ?_
    refine xa_eqh (hi' := xa_up T (ci s 128) 10 (sx_bye T s)) (by rw [show sx_bye T s = 1 from if_pos (by simp [h5])]) ?_
    refine xa_aload_n (pc := 24) dX5_end_24 rfl ?_
    refine xa_iconst (pc := 25) (v := 0) dX5_end_25 (by decide) ?_
    refine xa_putI (pc := 26) 5 7 lpX5_9 dX5_end_26 hm (kd_128 _) rfl rfl rfl ?_
    exact xa_vret dX5_end_29 rfl ⟨rfl, rfl, rfl⟩
  · refine xa_aload_n (pc := 8) dX5_end_8 rfl ?_
    refine xa_getI (pc := 9) 5 7 lfX5_9 dX5_end_9 hm (kd_128 _) rfl ?_
    refine xa_iconst (pc := 12) (v := 2) dX5_end_12 (by decide) ?_
    refine xa_icmp_ne (pc := 13) 20 dX5_end_13 (by decide) (fun h13 => ?_) (fun h13 => ?_)
    · refine xa_iconst (pc := 20) (v := 0) dX5_end_20 (by decide) ?_
      refine xa_putI (pc := 21) 5 10 lpX5_44 dX5_end_21 hm (kd_128 _) rfl rfl rfl ?_
      refine xa_eqh (hi' := xa_up T (ci s 128) 10 (sx_bye T s)) (by rw [show sx_bye T s = 0 from if_neg (by simp [h5, h13])]) ?_
      refine xa_aload_n (pc := 24) dX5_end_24 rfl ?_
      refine xa_iconst (pc := 25) (v := 0) dX5_end_25 (by decide) ?_
      refine xa_putI (pc := 26) 5 7 lpX5_9 dX5_end_26 hm (kd_128 _) rfl rfl rfl ?_
      exact xa_vret dX5_end_29 rfl ⟨rfl, rfl, rfl⟩
    · refine xa_iconst (pc := 16) (v := 1) dX5_end_16 (by decide) ?_
      refine xa_goto (pc := 17) (tgt := 21) dX5_end_17 (by decide) ?_
      refine xa_putI (pc := 21) 5 10 lpX5_44 dX5_end_21 hm (kd_128 _) rfl rfl rfl ?_
      refine xa_eqh (hi' := xa_up T (ci s 128) 10 (sx_bye T s)) (by rw [show sx_bye T s = 1 from if_pos (by simp [h5, h13])]) ?_
      refine xa_aload_n (pc := 24) dX5_end_24 rfl ?_
      refine xa_iconst (pc := 25) (v := 0) dX5_end_25 (by decide) ?_
      refine xa_putI (pc := 26) 5 7 lpX5_9 dX5_end_26 hm (kd_128 _) rfl rfl rfl ?_
      exact xa_vret dX5_end_29 rfl ⟨rfl, rfl, rfl⟩
set_option maxHeartbeats 4000000 in
theorem cx_claimAnew (E : xa_EV) {L : List Nat} {T : xa_AH} {R : xa_AR} {s : Nat} (hm : ci s 128 ∈ L) (n : Int32) : xa_Ct E mX5_claimAnew [.ref (ci s 128), .int n] L T R (xa_pV (sx_anew T s n) R) := by
  refine xa_Ct.of [some (.ref (ci s 128)), some (.int n)] rfl (Nat.le_of_ble_eq_true rfl) (by simp [Value.category]) rfl ?_
  refine xa_aload_n (pc := 0) dX5_claimAnew_0 rfl ?_
  refine xa_aload_n (pc := 1) dX5_claimAnew_1 rfl ?_
  refine xa_getI (pc := 2) 5 10 lfX5_44 dX5_claimAnew_2 hm (kd_128 _) rfl ?_
  refine xa_if_ne (pc := 5) 16 dX5_claimAnew_5 (by decide) (fun h5 => ?_) (fun h5 => ?_)
  · refine xa_iconst (pc := 16) (v := 1) dX5_claimAnew_16 (by decide) ?_
    refine xa_goto (pc := 17) (tgt := 21) dX5_claimAnew_17 (by decide) ?_
    refine xa_putI (pc := 21) 5 10 lpX5_44 dX5_claimAnew_21 hm (kd_128 _) rfl rfl rfl ?_
    refine xa_eqh (hi' := xa_up T (ci s 128) 10 (sx_bye T s)) (by rw [show sx_bye T s = 1 from if_pos (by simp [h5])]) ?_
    refine xa_aload_n (pc := 24) dX5_claimAnew_24 rfl ?_
    refine xa_iload_n (pc := 25) dX5_claimAnew_25 rfl ?_
    refine xa_putI (pc := 26) 5 5 lpX5_28 dX5_claimAnew_26 hm (kd_128 _) rfl rfl rfl ?_
    refine xa_aload_n (pc := 29) dX5_claimAnew_29 rfl ?_
    refine xa_iconst (pc := 30) (v := 1) dX5_claimAnew_30 (by decide) ?_
    refine xa_putI (pc := 31) 5 7 lpX5_9 dX5_claimAnew_31 hm (kd_128 _) rfl rfl rfl ?_
    refine xa_aload_n (pc := 34) dX5_claimAnew_34 rfl ?_
    refine xa_iconst (pc := 35) (v := 3) dX5_claimAnew_35 (by decide) ?_
    refine xa_putI (pc := 36) 5 8 lpX5_15 dX5_claimAnew_36 hm (kd_128 _) rfl rfl rfl ?_
    refine xa_aload_n (pc := 39) dX5_claimAnew_39 rfl ?_
    refine xa_dup (pc := 40) dX5_claimAnew_40 rfl ?_
    refine xa_getI (pc := 41) 5 11 lfX5_47 dX5_claimAnew_41 hm (kd_128 _) rfl ?_
    refine xa_iconst (pc := 44) (v := 1) dX5_claimAnew_44 (by decide) ?_
    refine xa_iadd (pc := 45) dX5_claimAnew_45 ?_
    refine xa_putI (pc := 46) 5 11 lpX5_47 dX5_claimAnew_46 hm (kd_128 _) rfl rfl rfl ?_
    exact xa_vret dX5_claimAnew_49 rfl ⟨rfl, by unfold sx_anew; congr 1; simp [xa_up], rfl⟩
  · refine xa_aload_n (pc := 8) dX5_claimAnew_8 rfl ?_
    refine xa_getI (pc := 9) 5 7 lfX5_9 dX5_claimAnew_9 hm (kd_128 _) rfl ?_
    refine xa_iconst (pc := 12) (v := 2) dX5_claimAnew_12 (by decide) ?_
    refine xa_icmp_ne (pc := 13) 20 dX5_claimAnew_13 (by decide) (fun h13 => ?_) (fun h13 => ?_)
    · refine xa_iconst (pc := 20) (v := 0) dX5_claimAnew_20 (by decide) ?_
      refine xa_putI (pc := 21) 5 10 lpX5_44 dX5_claimAnew_21 hm (kd_128 _) rfl rfl rfl ?_
      refine xa_eqh (hi' := xa_up T (ci s 128) 10 (sx_bye T s)) (by rw [show sx_bye T s = 0 from if_neg (by simp [h5, h13])]) ?_
      refine xa_aload_n (pc := 24) dX5_claimAnew_24 rfl ?_
      refine xa_iload_n (pc := 25) dX5_claimAnew_25 rfl ?_
      refine xa_putI (pc := 26) 5 5 lpX5_28 dX5_claimAnew_26 hm (kd_128 _) rfl rfl rfl ?_
      refine xa_aload_n (pc := 29) dX5_claimAnew_29 rfl ?_
      refine xa_iconst (pc := 30) (v := 1) dX5_claimAnew_30 (by decide) ?_
      refine xa_putI (pc := 31) 5 7 lpX5_9 dX5_claimAnew_31 hm (kd_128 _) rfl rfl rfl ?_
      refine xa_aload_n (pc := 34) dX5_claimAnew_34 rfl ?_
      refine xa_iconst (pc := 35) (v := 3) dX5_claimAnew_35 (by decide) ?_
      refine xa_putI (pc := 36) 5 8 lpX5_15 dX5_claimAnew_36 hm (kd_128 _) rfl rfl rfl ?_
      refine xa_aload_n (pc := 39) dX5_claimAnew_39 rfl ?_
      refine xa_dup (pc := 40) dX5_claimAnew_40 rfl ?_
      refine xa_getI (pc := 41) 5 11 lfX5_47 dX5_claimAnew_41 hm (kd_128 _) rfl ?_
      refine xa_iconst (pc := 44) (v := 1) dX5_claimAnew_44 (by decide) ?_
      refine xa_iadd (pc := 45) dX5_claimAnew_45 ?_
      refine xa_putI (pc := 46) 5 11 lpX5_47 dX5_claimAnew_46 hm (kd_128 _) rfl rfl rfl ?_
      exact xa_vret dX5_claimAnew_49 rfl ⟨rfl, by unfold sx_anew; congr 1; simp [xa_up], rfl⟩
    · refine xa_iconst (pc := 16) (v := 1) dX5_claimAnew_16 (by decide) ?_
      refine xa_goto (pc := 17) (tgt := 21) dX5_claimAnew_17 (by decide) ?_
      refine xa_putI (pc := 21) 5 10 lpX5_44 dX5_claimAnew_21 hm (kd_128 _) rfl rfl rfl ?_
      refine xa_eqh (hi' := xa_up T (ci s 128) 10 (sx_bye T s)) (by rw [show sx_bye T s = 1 from if_pos (by simp [h5, h13])]) ?_
      refine xa_aload_n (pc := 24) dX5_claimAnew_24 rfl ?_
      refine xa_iload_n (pc := 25) dX5_claimAnew_25 rfl ?_
      refine xa_putI (pc := 26) 5 5 lpX5_28 dX5_claimAnew_26 hm (kd_128 _) rfl rfl rfl ?_
      refine xa_aload_n (pc := 29) dX5_claimAnew_29 rfl ?_
      refine xa_iconst (pc := 30) (v := 1) dX5_claimAnew_30 (by decide) ?_
      refine xa_putI (pc := 31) 5 7 lpX5_9 dX5_claimAnew_31 hm (kd_128 _) rfl rfl rfl ?_
      refine xa_aload_n (pc := 34) dX5_claimAnew_34 rfl ?_
      refine xa_iconst (pc := 35) (v := 3) dX5_claimAnew_35 (by decide) ?_
      refine xa_putI (pc := 36) 5 8 lpX5_15 dX5_claimAnew_36 hm (kd_128 _) rfl rfl rfl ?_
      refine xa_aload_n (pc := 39) dX5_claimAnew_39 rfl ?_
      refine xa_dup (pc := 40) dX5_claimAnew_40 rfl ?_
      refine xa_getI (pc := 41) 5 11 lfX5_47 dX5_claimAnew_41 hm (kd_128 _) rfl ?_
      refine xa_iconst (pc := 44) (v := 1) dX5_claimAnew_44 (by decide) ?_
      refine xa_iadd (pc := 45) dX5_claimAnew_45 ?_
      refine xa_putI (pc := 46) 5 11 lpX5_47 dX5_claimAnew_46 hm (kd_128 _) rfl rfl rfl ?_
      exact xa_vret dX5_claimAnew_49 rfl ⟨rfl, by unfold sx_anew; congr 1; simp [xa_up], rfl⟩
