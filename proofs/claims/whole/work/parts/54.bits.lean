/-! ===== counting bits ===== -/
def cat4 (a b c d : Nat) : Nat := a + 256 * (b + 256 * (c + 256 * d))
theorem land_cat {a b c d : Nat} (hb : b < 256) (hd : d < 256) : (b + 256 * a) &&& (d + 256 * c) = (b &&& d) + 256 * (a &&& c) := by
  have e1 : b + 256 * a = 2 ^ 8 * a + b := by omega
  have e2 : d + 256 * c = 2 ^ 8 * c + d := by omega
  have e3 : (b &&& d) + 256 * (a &&& c) = 2 ^ 8 * (a &&& c) + (b &&& d) := by omega
  rw [e1, e2, e3]
  apply Nat.eq_of_testBit_eq
  intro i
  rw [Nat.testBit_and, Nat.testBit_two_pow_mul_add a (i := 8) hb, Nat.testBit_two_pow_mul_add c (i := 8) hd, Nat.testBit_two_pow_mul_add (a &&& c) (i := 8) (Nat.and_lt_two_pow b hd)]
  split
  · rw [Nat.testBit_and]
  · rw [Nat.testBit_and]
theorem land4 {a b c d m0 m1 m2 m3 : Nat} (ha : a < 256) (hb : b < 256) (hc : c < 256) (g0 : m0 < 256) (g1 : m1 < 256) (g2 : m2 < 256) : cat4 a b c d &&& cat4 m0 m1 m2 m3 = cat4 (a &&& m0) (b &&& m1) (c &&& m2) (d &&& m3) := by
  unfold cat4; rw [land_cat ha g0, land_cat hb g1, land_cat hc g2]
def pf (a : Nat) : Nat := a - ((a / 2) &&& 85)
def pg (a : Nat) : Nat := (pf a &&& 51) + ((pf a / 4) &&& 51)
def pp (a : Nat) : Nat := (pg a + pg a / 16) &&& 15
theorem p_1 : ∀ a, a < 256 → ∀ r, r < 2 → ((a / 2 + 128 * r) &&& 85) = (a / 2) &&& 85 ∧ ((a / 2) &&& 85) ≤ a := by decide +kernel
theorem p_2 : ∀ a, a < 256 → pf a < 256 ∧ pg a ≤ 68 ∧ pg a % 16 ≤ 4 ∧ pp a ≤ 8 := by decide +kernel
theorem p_3 : ∀ a, a < 256 → ∀ r, r < 4 → ((a / 4 + 64 * r) &&& 51) = (a / 4) &&& 51 := by decide +kernel
theorem p_4 : ∀ a, a < 69 → ∀ r, r < 5 → ((a + a / 16 + 16 * r) &&& 15) = (a + a / 16) &&& 15 := by decide +kernel
theorem p_5 : ∀ a, a < 256 → pp a = xa_ct (fun i => a.testBit i) 8 := by decide +kernel
theorem p_6 : ∀ a, a < 256 → (pf a &&& 51) < 256 ∧ ((pf a / 4) &&& 51) < 256 ∧ ((a / 2) &&& 85) < 256 := by decide +kernel
def nb1 (n : Nat) : Nat := n - ((n / 2) &&& 1431655765)
def nb2 (n : Nat) : Nat := (nb1 n &&& 858993459) + ((nb1 n / 4) &&& 858993459)
def nb3 (n : Nat) : Nat := (nb2 n + nb2 n / 16) &&& 252645135
def nb4 (n : Nat) : Nat := nb3 n + nb3 n / 256
def nb5 (n : Nat) : Nat := nb4 n + nb4 n / 65536
theorem nb_eq {a b c d : Nat} (ha : a < 256) (hb : b < 256) (hc : c < 256) (hd : d < 256) : nb1 (cat4 a b c d) = cat4 (pf a) (pf b) (pf c) (pf d) ∧ nb2 (cat4 a b c d) = cat4 (pg a) (pg b) (pg c) (pg d) ∧ nb3 (cat4 a b c d) = cat4 (pp a) (pp b) (pp c) (pp d) := by
  have A := p_2 a ha; have B := p_2 b hb; have C := p_2 c hc; have D := p_2 d hd
  have A6 := p_6 a ha; have B6 := p_6 b hb; have C6 := p_6 c hc; have D6 := p_6 d hd
  have s1 : nb1 (cat4 a b c d) = cat4 (pf a) (pf b) (pf c) (pf d) := by
    have e : cat4 a b c d / 2 = cat4 (a / 2 + 128 * (b % 2)) (b / 2 + 128 * (c % 2)) (c / 2 + 128 * (d % 2)) (d / 2 + 128 * 0) := by unfold cat4; omega
    have m : 1431655765 = cat4 85 85 85 85 := by decide
    unfold nb1
    rw [e, m, land4 (by omega) (by omega) (by omega) (by decide) (by decide) (by decide)]
    have a1 := p_1 a ha (b % 2) (by omega); have b1 := p_1 b hb (c % 2) (by omega); have c1 := p_1 c hc (d % 2) (by omega); have d1 := p_1 d hd 0 (by omega)
    rw [a1.1, b1.1, c1.1, d1.1]
    unfold pf cat4
    omega
  have s2 : nb2 (cat4 a b c d) = cat4 (pg a) (pg b) (pg c) (pg d) := by
    have e : cat4 (pf a) (pf b) (pf c) (pf d) / 4 = cat4 (pf a / 4 + 64 * (pf b % 4)) (pf b / 4 + 64 * (pf c % 4)) (pf c / 4 + 64 * (pf d % 4)) (pf d / 4 + 64 * 0) := by unfold cat4; omega
    have m : 858993459 = cat4 51 51 51 51 := by decide
    unfold nb2
    rw [s1, e, m, land4 (by omega) (by omega) (by omega) (by decide) (by decide) (by decide), land4 (by omega) (by omega) (by omega) (by decide) (by decide) (by decide)]
    rw [p_3 (pf a) (by omega) (pf b % 4) (by omega), p_3 (pf b) (by omega) (pf c % 4) (by omega), p_3 (pf c) (by omega) (pf d % 4) (by omega), p_3 (pf d) (by omega) 0 (by omega)]
    unfold pg cat4
    omega
  refine ⟨s1, s2, ?_⟩
  have e : cat4 (pg a) (pg b) (pg c) (pg d) + cat4 (pg a) (pg b) (pg c) (pg d) / 16 = cat4 (pg a + pg a / 16 + 16 * (pg b % 16)) (pg b + pg b / 16 + 16 * (pg c % 16)) (pg c + pg c / 16 + 16 * (pg d % 16)) (pg d + pg d / 16 + 16 * 0) := by unfold cat4; omega
  have m : 252645135 = cat4 15 15 15 15 := by decide
  unfold nb3
  rw [s2, e, m, land4 (by omega) (by omega) (by omega) (by decide) (by decide) (by decide)]
  rw [p_4 (pg a) (by omega) (pg b % 16) (by omega), p_4 (pg b) (by omega) (pg c % 16) (by omega), p_4 (pg c) (by omega) (pg d % 16) (by omega), p_4 (pg d) (by omega) 0 (by omega)]
  rfl
theorem nb_all {a b c d : Nat} (ha : a < 256) (hb : b < 256) (hc : c < 256) (hd : d < 256) : nb5 (cat4 a b c d) % 64 = pp a + pp b + pp c + pp d := by
  have A := p_2 a ha; have B := p_2 b hb; have C := p_2 c hc; have D := p_2 d hd
  unfold nb5 nb4
  rw [(nb_eq ha hb hc hd).2.2]
  unfold cat4
  generalize pp a = w at A ⊢
  generalize pp b = x at B ⊢
  generalize pp c = y at C ⊢
  generalize pp d = z at D ⊢
  have e1 : (w + 256 * (x + 256 * (y + 256 * z))) / 256 = x + 256 * (y + 256 * z) := by omega
  rw [e1]
  have e2 : (w + 256 * (x + 256 * (y + 256 * z)) + (x + 256 * (y + 256 * z))) / 65536 = (y + z) + 256 * z := by omega
  rw [e2]
  omega
theorem ct_add (p : Nat → Bool) (m : Nat) : ∀ n, xa_ct p (m + n) = xa_ct p m + xa_ct (fun i => p (m + i)) n
  | 0 => by simp [xa_ct]
  | n + 1 => by rw [← Nat.add_assoc, xa_ct, ct_add p m n, xa_ct]; omega
theorem nb_ct (n : Nat) (hn : n < 2 ^ 32) : nb5 n % 64 = xa_ct (fun i => n.testBit i) 32 := by
  have e : n = cat4 (n % 256) (n / 256 % 256) (n / 65536 % 256) (n / 16777216 % 256) := by unfold cat4; omega
  have h1 : nb5 n % 64 = pp (n % 256) + pp (n / 256 % 256) + pp (n / 65536 % 256) + pp (n / 16777216 % 256) := by
    conv => lhs; rw [e]
    exact nb_all (by omega) (by omega) (by omega) (by omega)
  have t : ∀ k i, i < 8 → (n / 2 ^ k % 256).testBit i = n.testBit (k + i) := by
    intro k i hi
    rw [show (256 : Nat) = 2 ^ 8 from rfl, Nat.testBit_mod_two_pow, Nat.testBit_div_two_pow]
    simp [hi, Nat.add_comm]
  rw [h1, p_5 _ (by omega), p_5 _ (by omega), p_5 _ (by omega), p_5 _ (by omega)]
  rw [show (32 : Nat) = 8 + (8 + (8 + 8)) from rfl, ct_add, ct_add, ct_add]
  have c0 : xa_ct (fun i => (n % 256).testBit i) 8 = xa_ct (fun i => n.testBit i) 8 := xa_ct_cong (fun i hi => by have := t 0 i hi; simpa using this)
  have c1 : xa_ct (fun i => (n / 256 % 256).testBit i) 8 = xa_ct (fun i => n.testBit (8 + i)) 8 := xa_ct_cong (fun i hi => t 8 i hi)
  have c2 : xa_ct (fun i => (n / 65536 % 256).testBit i) 8 = xa_ct (fun i => n.testBit (8 + (8 + i))) 8 := xa_ct_cong (fun i hi => by have := t 16 i hi; rw [show 8 + (8 + i) = 16 + i by omega]; exact this)
  have c3 : xa_ct (fun i => (n / 16777216 % 256).testBit i) 8 = xa_ct (fun i => n.testBit (8 + (8 + (8 + i)))) 8 := xa_ct_cong (fun i hi => by have := t 24 i hi; rw [show 8 + (8 + (8 + i)) = 24 + i by omega]; exact this)
  rw [c0, c1, c2, c3]; omega
/-! over Int32 -/
theorem nI_self (x : Int32) : x = nI x.toBitVec.toNat := by
  apply Int32.toBitVec_inj.mp
  apply BitVec.eq_of_toNat_eq
  rw [pk_tn x.toBitVec.isLt]
theorem nI_and (a b : Nat) (ha : a < 2 ^ 32) (hb : b < 2 ^ 32) : nI a &&& nI b = nI (a &&& b) := by
  apply Int32.toBitVec_inj.mp
  apply BitVec.eq_of_toNat_eq
  rw [Int32.toBitVec_and, BitVec.toNat_and, pk_tn ha, pk_tn hb, pk_tn (Nat.and_lt_two_pow a hb)]
theorem us_k (n k : Nat) (hn : n < 2 ^ 32) (hk : (((nI k).toUInt32 &&& Int32.toUInt32 31).toBitVec % 32).toNat = k) : ((nI n).toUInt32 >>> ((nI k).toUInt32 &&& Int32.toUInt32 31)).toInt32 = nI (n / 2 ^ k) := pk_ushrN hn (nI k) k hk
theorem nb_le (n : Nat) (hn : n < 2 ^ 32) : nb1 n < 2 ^ 32 ∧ nb2 n < 2 ^ 32 ∧ nb3 n < 2 ^ 32 ∧ nb4 n < 2 ^ 32 ∧ ((n / 2) &&& 1431655765) ≤ n := by
  have e : n = cat4 (n % 256) (n / 256 % 256) (n / 65536 % 256) (n / 16777216 % 256) := by unfold cat4; omega
  have q := nb_eq (a := n % 256) (b := n / 256 % 256) (c := n / 65536 % 256) (d := n / 16777216 % 256) (by omega) (by omega) (by omega) (by omega)
  rw [← e] at q
  have A := p_2 (n % 256) (by omega); have B := p_2 (n / 256 % 256) (by omega); have C := p_2 (n / 65536 % 256) (by omega); have D := p_2 (n / 16777216 % 256) (by omega)
  refine ⟨?_, ?_, ?_, ?_, ?_⟩
  · rw [q.1]; unfold cat4; omega
  · rw [q.2.1]; unfold cat4; omega
  · rw [q.2.2]; unfold cat4; omega
  · unfold nb4; rw [q.2.2]; unfold cat4; omega
  · have : ((n / 2) &&& 1431655765) ≤ n / 2 := Nat.and_le_left
    omega
def bcI (x : Int32) (k : Int32) : Int32 := (x.toUInt32 >>> (k.toUInt32 &&& Int32.toUInt32 31)).toInt32
def bc1 (x : Int32) : Int32 := x - (bcI x 1 &&& 1431655765)
def bc2 (x : Int32) : Int32 := (bc1 x &&& 858993459) + (bcI (bc1 x) 2 &&& 858993459)
def bc3 (x : Int32) : Int32 := (bc2 x + bcI (bc2 x) 4) &&& 252645135
def bc4 (x : Int32) : Int32 := bc3 x + bcI (bc3 x) 8
def bc5 (x : Int32) : Int32 := bc4 x + bcI (bc4 x) 16
theorem bc_e (x : Int32) : bc5 x &&& 63 = nI (xa_ct (bt x) 32) := by
  have hx := nI_self x
  have hn : x.toBitVec.toNat < 2 ^ 32 := x.toBitVec.isLt
  have hc : xa_ct (bt x) 32 = nb5 x.toBitVec.toNat % 64 := by
    rw [nb_ct _ hn]; rfl
  rw [hc]
  generalize x.toBitVec.toNat = n at hx hn ⊢
  obtain ⟨l1, l2, l3, l4, l5⟩ := nb_le n hn
  have s1 : bc1 x = nI (nb1 n) := by
    unfold bc1 bcI nb1
    rw [hx, show (1 : Int32) = nI 1 from rfl, us_k n 1 hn (by decide), show (1431655765 : Int32) = nI 1431655765 from rfl, nI_and _ _ (by omega) (by decide)]
    exact pk_sub l5
  have s2 : bc2 x = nI (nb2 n) := by
    unfold bc2 bcI nb2
    rw [s1, show (2 : Int32) = nI 2 from rfl, us_k _ 2 l1 (by decide), show (858993459 : Int32) = nI 858993459 from rfl, nI_and _ _ l1 (by decide), nI_and _ _ (by omega) (by decide), nI_add]
  have s3 : bc3 x = nI (nb3 n) := by
    unfold bc3 bcI nb3
    have b : nb2 n + nb2 n / 2 ^ 4 < 2 ^ 32 := by
      have e : n = cat4 (n % 256) (n / 256 % 256) (n / 65536 % 256) (n / 16777216 % 256) := by unfold cat4; omega
      have q := nb_eq (a := n % 256) (b := n / 256 % 256) (c := n / 65536 % 256) (d := n / 16777216 % 256) (by omega) (by omega) (by omega) (by omega)
      rw [← e] at q
      have A := p_2 (n % 256) (by omega); have B := p_2 (n / 256 % 256) (by omega); have C := p_2 (n / 65536 % 256) (by omega); have D := p_2 (n / 16777216 % 256) (by omega)
      rw [q.2.1]; unfold cat4; omega
    rw [s2, show (4 : Int32) = nI 4 from rfl, us_k _ 4 l2 (by decide), nI_add, show (252645135 : Int32) = nI 252645135 from rfl, nI_and _ _ b (by decide)]
  have s4 : bc4 x = nI (nb4 n) := by
    unfold bc4 bcI nb4
    rw [s3, show (8 : Int32) = nI 8 from rfl, us_k _ 8 l3 (by decide), nI_add]
  have s5 : bc5 x = nI (nb5 n) := by
    unfold bc5 bcI nb5
    rw [s4, show (16 : Int32) = nI 16 from rfl, us_k _ 16 l4 (by decide), nI_add]
  have l6 : nb5 n < 2 ^ 32 := by
    have e : n = cat4 (n % 256) (n / 256 % 256) (n / 65536 % 256) (n / 16777216 % 256) := by unfold cat4; omega
    have q := nb_eq (a := n % 256) (b := n / 256 % 256) (c := n / 65536 % 256) (d := n / 16777216 % 256) (by omega) (by omega) (by omega) (by omega)
    rw [← e] at q
    have A := p_2 (n % 256) (by omega); have B := p_2 (n / 256 % 256) (by omega); have C := p_2 (n / 65536 % 256) (by omega); have D := p_2 (n / 16777216 % 256) (by omega)
    unfold nb5 nb4; rw [q.2.2]; unfold cat4; omega
  rw [s5, show (63 : Int32) = nI 63 from rfl, nI_and _ _ l6 (by decide)]
  congr 1
  exact Nat.and_two_pow_sub_one_eq_mod (nb5 n) 6
set_option maxHeartbeats 4000000 in
theorem cx_bitCount (E : xa_EV) {L : List Nat} {T : xa_AH} {R : xa_AR} (x : Int32) : xa_Ct E mJ6_bitCount_0f7a4 [.int x] L T R (xa_pR (.int (nI (xa_ct (bt x) 32))) T R) := by
  refine xa_Ct.of [some (.int x)] rfl (Nat.le_of_ble_eq_true rfl) (by simp [Value.category]) rfl ?_
  refine xa_iload_n (pc := 0) dJ6_bitCount_0f7a4_0 rfl ?_
  refine xa_iload_n (pc := 1) dJ6_bitCount_0f7a4_1 rfl ?_
  refine xa_iconst (pc := 2) (v := 1) dJ6_bitCount_0f7a4_2 (by decide) ?_
  refine xa_iushr (pc := 3) dJ6_bitCount_0f7a4_3 ?_
  refine xa_ldcw (pc := 4) dJ6_bitCount_0f7a4_4 lkJ6_265 ?_
  refine xa_iand (pc := 7) dJ6_bitCount_0f7a4_7 ?_
  refine xa_isub (pc := 8) dJ6_bitCount_0f7a4_8 ?_
  refine xa_istore_n (pc := 9) dJ6_bitCount_0f7a4_9 (by decide) ?_
  refine xa_iload_n (pc := 10) dJ6_bitCount_0f7a4_10 rfl ?_
  refine xa_ldcw (pc := 11) dJ6_bitCount_0f7a4_11 lkJ6_266 ?_
  refine xa_iand (pc := 14) dJ6_bitCount_0f7a4_14 ?_
  refine xa_iload_n (pc := 15) dJ6_bitCount_0f7a4_15 rfl ?_
  refine xa_iconst (pc := 16) (v := 2) dJ6_bitCount_0f7a4_16 (by decide) ?_
  refine xa_iushr (pc := 17) dJ6_bitCount_0f7a4_17 ?_
  refine xa_ldcw (pc := 18) dJ6_bitCount_0f7a4_18 lkJ6_266 ?_
  refine xa_iand (pc := 21) dJ6_bitCount_0f7a4_21 ?_
  refine xa_iadd (pc := 22) dJ6_bitCount_0f7a4_22 ?_
  refine xa_istore_n (pc := 23) dJ6_bitCount_0f7a4_23 (by decide) ?_
  refine xa_iload_n (pc := 24) dJ6_bitCount_0f7a4_24 rfl ?_
  refine xa_iload_n (pc := 25) dJ6_bitCount_0f7a4_25 rfl ?_
  refine xa_iconst (pc := 26) (v := 4) dJ6_bitCount_0f7a4_26 (by decide) ?_
  refine xa_iushr (pc := 27) dJ6_bitCount_0f7a4_27 ?_
  refine xa_iadd (pc := 28) dJ6_bitCount_0f7a4_28 ?_
  refine xa_ldcw (pc := 29) dJ6_bitCount_0f7a4_29 lkJ6_267 ?_
  refine xa_iand (pc := 32) dJ6_bitCount_0f7a4_32 ?_
  refine xa_istore_n (pc := 33) dJ6_bitCount_0f7a4_33 (by decide) ?_
  refine xa_iload_n (pc := 34) dJ6_bitCount_0f7a4_34 rfl ?_
  refine xa_iload_n (pc := 35) dJ6_bitCount_0f7a4_35 rfl ?_
  refine xa_bipush (pc := 36) (v := 8) dJ6_bitCount_0f7a4_36 (by decide) ?_
  refine xa_iushr (pc := 38) dJ6_bitCount_0f7a4_38 ?_
  refine xa_iadd (pc := 39) dJ6_bitCount_0f7a4_39 ?_
  refine xa_istore_n (pc := 40) dJ6_bitCount_0f7a4_40 (by decide) ?_
  refine xa_iload_n (pc := 41) dJ6_bitCount_0f7a4_41 rfl ?_
  refine xa_iload_n (pc := 42) dJ6_bitCount_0f7a4_42 rfl ?_
  refine xa_bipush (pc := 43) (v := 16) dJ6_bitCount_0f7a4_43 (by decide) ?_
  refine xa_iushr (pc := 45) dJ6_bitCount_0f7a4_45 ?_
  refine xa_iadd (pc := 46) dJ6_bitCount_0f7a4_46 ?_
  refine xa_istore_n (pc := 47) dJ6_bitCount_0f7a4_47 (by decide) ?_
  refine xa_iload_n (pc := 48) dJ6_bitCount_0f7a4_48 rfl ?_
  refine xa_bipush (pc := 49) (v := 63) dJ6_bitCount_0f7a4_49 (by decide) ?_
  refine xa_iand (pc := 51) dJ6_bitCount_0f7a4_51 ?_
  exact xa_zret dJ6_bitCount_0f7a4_52 rfl rfl ⟨congrArg (fun z => some (Value.int z)) (bc_e x).symm, rfl, rfl⟩
