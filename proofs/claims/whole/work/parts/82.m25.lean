theorem ct_one {p q : Nat → Bool} {s : Nat} : ∀ {n : Nat}, s < n → (∀ i, i < n → i ≠ s → p i = q i) → p s = false → q s = true → xa_ct q n = xa_ct p n + 1
  | 0, h, _, _, _ => absurd h (Nat.not_lt_zero s)
  | n + 1, h, hi, h1, h2 => by
    rw [xa_ct, xa_ct]
    by_cases e : s = n
    · subst e
      rw [h1, h2, xa_ct_cong (p := q) (q := p) (n := s) (fun i g => (hi i (by omega) (by omega)).symm)]; rfl
    · rw [ct_one (n := n) (by omega) (fun i g => hi i (by omega)) h1 h2, hi n (by omega) (fun c => e c.symm)]; omega
theorem ct_mono {p q : Nat → Bool} : ∀ {n : Nat}, (∀ i, i < n → p i = true → q i = true) → xa_ct p n ≤ xa_ct q n
  | 0, _ => Nat.le_refl 0
  | n + 1, h => by
    have r := ct_mono (n := n) (fun i hi => h i (by omega))
    rw [xa_ct, xa_ct]
    by_cases e : p n = true
    · rw [if_pos e, if_pos (h n (by omega) e)]; omega
    · rw [if_neg e]; split <;> omega
def xm_ahd (ns : Nat) (S : xa_AH) (h : Nat) (kd m : Int32) (s : Nat) : Nat := xa_ct (fun o => cq_fd S h kd m o && decide (S 159 (32 * h + o) < S 159 (32 * h + s))) ns
def xm_fnp (ns : Nat) (S : xa_AH) (h : Nat) (kd m k : Int32) (s : Nat) : Bool := cq_fd S h kd m s && decide (nI (xm_ahd ns S h kd m s) = k)
def xm_find (nh ns : Nat) (S : xa_AH) (h kd m k : Int32) : Int32 := if (xm_isH nh h && decide (0 ≤ k)) = true then xm_first (xm_fnp ns S (xc h) kd m k) ns else -1
/-- the names of the records of a store are names, and apart -/
def xm_rn (ns : Nat) (S : xa_AH) (h : Nat) : Prop := ∀ o, o < ns → ¬ S 158 (32 * h + o) = 0 → 1 ≤ xc (S 159 (32 * h + o)) ∧ xc (S 159 (32 * h + o)) ≤ 250 ∧ S 159 (32 * h + o) = nI (xc (S 159 (32 * h + o))) ∧ ∀ x, x < ns → ¬ S 158 (32 * h + x) = 0 → S 159 (32 * h + o) = S 159 (32 * h + x) → o = x
def fn_p (S : xa_AH) (h : Nat) (kd m : Int32) (n s o : Nat) : Bool := cq_fd S h kd m o && (decide (xc (S 159 (32 * h + o)) < n) || (decide (xc (S 159 (32 * h + o)) = n) && decide (o < s)))
def fn_c (ns : Nat) (S : xa_AH) (h : Nat) (kd m : Int32) (n s : Nat) : Nat := xa_ct (fn_p S h kd m n s) ns
def fn_N (ns : Nat) (S : xa_AH) (h : Nat) (kd m k : Int32) (n s : Nat) : Prop := ∀ o, o < ns → cq_fd S h kd m o = true → (xc (S 159 (32 * h + o)) < n ∨ (xc (S 159 (32 * h + o)) = n ∧ o < s)) → ¬ nI (xm_ahd ns S h kd m o) = k
theorem fd_h {S : xa_AH} {h o : Nat} {kd m : Int32} (g : cq_fd S h kd m o = true) : ¬ S 158 (32 * h + o) = 0 := by
  intro e; simp [cq_fd, e] at g
theorem fn_skip {ns : Nat} {S : xa_AH} {h n x : Nat} {kd m k : Int32} (hs : ¬ (cq_fd S h kd m x = true ∧ xc (S 159 (32 * h + x)) = n)) : fn_c ns S h kd m n (x + 1) = fn_c ns S h kd m n x ∧ (fn_N ns S h kd m k n x → fn_N ns S h kd m k n (x + 1)) := by
  constructor
  · refine xa_ct_cong (fun i hi => ?_)
    unfold fn_p
    by_cases e : i = x
    · subst e
      cases c : cq_fd S h kd m i
      · rfl
      · have c2 : ¬ xc (S 159 (32 * h + i)) = n := fun z => hs ⟨c, z⟩
        simp [c2]
    · have e2 : decide (i < x + 1) = decide (i < x) := by rw [decide_eq_decide]; omega
      rw [e2]
  · intro g o ho hf hc
    refine g o ho hf ?_
    rcases hc with c | c
    · exact Or.inl c
    · by_cases e : o = x
      · subst e; exact absurd ⟨hf, c.1⟩ hs
      · exact Or.inr ⟨c.1, by omega⟩
theorem fn_ah {ns : Nat} {S : xa_AH} {h n x : Nat} {kd m : Int32} (hR : xm_rn ns S h) (hx : x < ns) (hf : cq_fd S h kd m x = true) (hn : xc (S 159 (32 * h + x)) = n) : xm_ahd ns S h kd m x = fn_c ns S h kd m n x := by
  refine xa_ct_cong (fun i hi => ?_)
  unfold fn_p
  cases c : cq_fd S h kd m i
  · rfl
  · have r1 := hR x hx (fd_h hf)
    have r2 := hR i hi (fd_h c)
    have e : (S 159 (32 * h + i) < S 159 (32 * h + x)) ↔ xc (S 159 (32 * h + i)) < n := by
      rw [fa_lt, r2.2.2.1, r1.2.2.1, nI_toInt (by omega), nI_toInt (by omega), xc_n (by omega), hn]; omega
    have e2 : (decide (xc (S 159 (32 * h + i)) = n) && decide (i < x)) = false := by
      by_cases g : xc (S 159 (32 * h + i)) = n
      · have z := r2.2.2.2 x hx (fd_h hf) (by rw [r2.2.2.1, r1.2.2.1, g, hn])
        simp; omega
      · simp [g]
    rw [e2]
    simp [e]
theorem fn_hit {ns : Nat} {S : xa_AH} {h n x : Nat} {kd m : Int32} (hx : x < ns) (hf : cq_fd S h kd m x = true) (hn : xc (S 159 (32 * h + x)) = n) : fn_c ns S h kd m n (x + 1) = fn_c ns S h kd m n x + 1 := by
  refine ct_one hx (fun i hi e => ?_) ?_ ?_
  · have e2 : decide (i < x + 1) = decide (i < x) := by rw [decide_eq_decide]; omega
    unfold fn_p; rw [e2]
  · unfold fn_p; simp [hn]
  · unfold fn_p; simp [hn, hf]
theorem fn_next {ns : Nat} {S : xa_AH} {h n : Nat} {kd m : Int32} : fn_c ns S h kd m (n + 1) 0 = fn_c ns S h kd m n ns := by
  refine xa_ct_cong (fun i hi => ?_)
  unfold fn_p
  congr 1
  rw [Bool.eq_iff_iff]
  simp
  omega
theorem fn_0 {ns : Nat} {S : xa_AH} {h : Nat} {kd m : Int32} (hR : xm_rn ns S h) : fn_c ns S h kd m 1 0 = 0 := by
  refine ct_no (fun i hi => ?_)
  unfold fn_p
  cases c : cq_fd S h kd m i
  · rfl
  · have r := hR i hi (fd_h c)
    have z : ¬ xc (S 159 (32 * h + i)) < 1 := by omega
    simp [z]
theorem ah_lt {ns : Nat} {S : xa_AH} {h x o : Nat} {kd m : Int32} (hR : xm_rn ns S h) (hx : x < ns) (ho : o < ns) (hf : cq_fd S h kd m x = true) (hg : cq_fd S h kd m o = true) (hl : xc (S 159 (32 * h + x)) < xc (S 159 (32 * h + o))) : xm_ahd ns S h kd m x < xm_ahd ns S h kd m o := by
  have r1 := hR x hx (fd_h hf)
  have r2 := hR o ho (fd_h hg)
  have lt1 : S 159 (32 * h + x) < S 159 (32 * h + o) := by
    rw [fa_lt, r2.2.2.1, r1.2.2.1, nI_toInt (by omega), nI_toInt (by omega)]; omega
  have e := ct_one (p := fun i => cq_fd S h kd m i && decide (S 159 (32 * h + i) < S 159 (32 * h + x))) (q := fun i => (cq_fd S h kd m i && decide (S 159 (32 * h + i) < S 159 (32 * h + x))) || decide (i = x)) (s := x) (n := ns) hx (fun i hi n => by simp [n]) (by simp [fa_lt]) (by simp)
  have l := ct_mono (p := fun i => (cq_fd S h kd m i && decide (S 159 (32 * h + i) < S 159 (32 * h + x))) || decide (i = x)) (q := fun i => cq_fd S h kd m i && decide (S 159 (32 * h + i) < S 159 (32 * h + o))) (n := ns) (fun i hi g => by
    simp only [Bool.or_eq_true, Bool.and_eq_true, decide_eq_true_eq] at g ⊢
    rcases g with g | g
    · refine ⟨g.1, ?_⟩
      have a := g.2
      rw [fa_lt] at a lt1 ⊢
      omega
    · subst g; exact ⟨hf, lt1⟩)
  unfold xm_ahd
  omega
theorem fn_is {ns : Nat} {S : xa_AH} {h n x : Nat} {kd m k : Int32} (hR : xm_rn ns S h) (h32 : ns ≤ 32) (hx : x < ns) (hf : cq_fd S h kd m x = true) (hn : xc (S 159 (32 * h + x)) = n) (hN : fn_N ns S h kd m k n x) (hk : k = nI (fn_c ns S h kd m n x)) : xm_first (xm_fnp ns S h kd m k) ns = nI x := by
  have e := fn_ah hR hx hf hn
  refine xm_first_yes (fun o ho => ?_) ?_ hx (by omega)
  · cases c : xm_fnp ns S h kd m k o
    · rfl
    · exfalso
      simp only [xm_fnp, Bool.and_eq_true, decide_eq_true_eq] at c
      rcases Nat.lt_trichotomy (xc (S 159 (32 * h + o))) n with g | g | g
      · exact hN o (by omega) c.1 (Or.inl g) c.2
      · exact hN o (by omega) c.1 (Or.inr ⟨g, ho⟩) c.2
      · have l := ah_lt hR hx (show o < ns by omega) hf c.1 (by omega)
        have z := congrArg xc (c.2.trans hk)
        have b1 : xm_ahd ns S h kd m o ≤ ns := xa_ct_le _ _
        have b2 : fn_c ns S h kd m n x ≤ ns := xa_ct_le _ _
        rw [xc_n (by omega), xc_n (by omega)] at z
        omega
  · simp [xm_fnp, hf, e, hk]
theorem fn_end {ns : Nat} {S : xa_AH} {h : Nat} {kd m k : Int32} (hR : xm_rn ns S h) (hN : fn_N ns S h kd m k 251 0) : xm_first (xm_fnp ns S h kd m k) ns = -1 := by
  refine xm_first_no (fun i hi => ?_)
  cases c : xm_fnp ns S h kd m k i
  · rfl
  · exfalso
    simp only [xm_fnp, Bool.and_eq_true, decide_eq_true_eq] at c
    have r := hR i hi (fd_h c.1)
    exact hN i hi c.1 (Or.inl (by omega)) c.2
set_option maxHeartbeats 4000000 in
theorem lm_fi33 (E : xa_EV) (S : xa_AH) {nh ns : Nat} (hW : xm_wf nh ns S) {h : Nat} (hh : h < 12) (kd m k : Int32) (hR : xm_rn ns S h) {n : Nat} (hn : n ≤ 250) (K : fn_N ns S h kd m k n ns → xa_W E mX8_find (xa_Z E mX8_find xm_L (xa_pR (.int (xm_first (xm_fnp ns S h kd m k) ns)) S xm_R)) 0 0 117 [some (.ref 130), some (.int (nI h)), some (.int kd), some (.int m), some (.int k), some (.int (k - nI (fn_c ns S h kd m n ns))), some (.int (nI n)), none, none] [] xm_L S xm_R) : ∀ x, x ≤ ns → fn_N ns S h kd m k n x → xa_W E mX8_find (xa_Z E mX8_find xm_L (xa_pR (.int (xm_first (xm_fnp ns S h kd m k) ns)) S xm_R)) 0 0 33 [some (.ref 130), some (.int (nI h)), some (.int kd), some (.int m), some (.int k), some (.int (k - nI (fn_c ns S h kd m n x))), some (.int (nI n)), some (.int (nI x)), none] [] xm_L S xm_R := by
  refine xa_dn (fun x hxl ih => ?_)
  intro hN
  obtain ⟨w1, w2, w3, w4, w5⟩ := id hW
  refine xa_iload (pc := 33) dX8_find_33 rfl ?_
  refine xa_aload_n (pc := 35) dX8_find_35 rfl ?_
  refine xa_getI (pc := 36) 8 26 lfX8_170 dX8_find_36 xm_o rfl rfl ?_
  refine xa_icmpN_ge (pc := 39) 117 x ns dX8_find_39 (by decide) rfl w4 (by omega) (by omega) (fun h39 => ?_) (fun h39 => ?_)
  · have g39 : ¬ (x < ns) := by omega
    have ex9 : x = ns := by omega
    subst ex9
    exact xa_fgk (K hN) (And.intro rfl (And.intro rfl (And.intro rfl (And.intro rfl (And.intro rfl (And.intro rfl (And.intro rfl trivial)))))))
  · refine xa_bipush (pc := 42) (v := 32) dX8_find_42 (by decide) ?_
    refine xa_iload_n (pc := 44) dX8_find_44 rfl ?_
    refine xa_imul (pc := 45) dX8_find_45 ?_
    refine xa_iload (pc := 46) dX8_find_46 rfl ?_
    refine xa_iadd (pc := 48) dX8_find_48 ?_
    refine xa_istore (pc := 49) dX8_find_49 (by decide) ?_
    refine xa_aload_n (pc := 51) dX8_find_51 rfl ?_
    refine xa_getA (pc := 52) 8 27 158 lfX8_86 dX8_find_52 xm_o rfl rfl rfl ?_
    refine xa_iload (pc := 55) dX8_find_55 rfl ?_
    refine xa_zaldN (pc := 57) ((32 * h) + x) dX8_find_57 xm_158 rfl (xa_pa (xa_pm rfl rfl) rfl) (by show _ < 384; omega) (by decide) ?_
    refine xa_if_eq (pc := 58) 111 dX8_find_58 (by decide) (fun h58 => ?_) (fun h58 => ?_)
    · refine xa_iinc (pc := 111) (v := nI (x + 1)) dX8_find_111 rfl (by decide) (nI_1 _) ?_
      refine xa_goto (pc := 114) (tgt := 33) dX8_find_114 (by decide) ?_
      have sk := fn_skip (ns := ns) (S := S) (h := h) (n := n) (x := x) (kd := kd) (m := m) (k := k) (fun ⟨c1, c2⟩ => by simp [cq_fd, h58] at c1)
      exact xa_fgk (ih (by omega) (sk.2 hN)) (And.intro rfl (And.intro rfl (And.intro rfl (And.intro rfl (And.intro rfl (And.intro (by rw [sk.1]) (And.intro rfl (And.intro rfl trivial))))))))
    · refine xa_aload_n (pc := 61) dX8_find_61 rfl ?_
      refine xa_getA (pc := 62) 8 16 147 lfX8_56 dX8_find_62 xm_o rfl rfl rfl ?_
      refine xa_iload (pc := 65) dX8_find_65 rfl ?_
      refine xa_ialdN (pc := 67) x dX8_find_67 xm_147 rfl rfl (by show _ < 32; omega) (by decide) ?_
      refine xa_iload_n (pc := 68) dX8_find_68 rfl ?_
      refine xa_icmp_ne (pc := 69) 111 dX8_find_69 (by decide) (fun h69 => ?_) (fun h69 => ?_)
      · refine xa_iinc (pc := 111) (v := nI (x + 1)) dX8_find_111 rfl (by decide) (nI_1 _) ?_
        refine xa_goto (pc := 114) (tgt := 33) dX8_find_114 (by decide) ?_
        have sk := fn_skip (ns := ns) (S := S) (h := h) (n := n) (x := x) (kd := kd) (m := m) (k := k) (fun ⟨c1, c2⟩ => by simp [cq_fd, h69] at c1)
        exact xa_fgk (ih (by omega) (sk.2 hN)) (And.intro rfl (And.intro rfl (And.intro rfl (And.intro rfl (And.intro rfl (And.intro (by rw [sk.1]) (And.intro rfl (And.intro rfl trivial))))))))
      · refine xa_aload_n (pc := 72) dX8_find_72 rfl ?_
        refine xa_getA (pc := 73) 8 28 159 lfX8_89 dX8_find_73 xm_o rfl rfl rfl ?_
        refine xa_iload (pc := 76) dX8_find_76 rfl ?_
        refine xa_ialdN (pc := 78) ((32 * h) + x) dX8_find_78 xm_159 rfl (xa_pa (xa_pm rfl rfl) rfl) (by show _ < 384; omega) (by decide) ?_
        refine xa_iload (pc := 79) dX8_find_79 rfl ?_
        refine xa_icmp_ne (pc := 81) 111 dX8_find_81 (by decide) (fun h81 => ?_) (fun h81 => ?_)
        · refine xa_iinc (pc := 111) (v := nI (x + 1)) dX8_find_111 rfl (by decide) (nI_1 _) ?_
          refine xa_goto (pc := 114) (tgt := 33) dX8_find_114 (by decide) ?_
          have sk := fn_skip (ns := ns) (S := S) (h := h) (n := n) (x := x) (kd := kd) (m := m) (k := k) (fun ⟨c1, c2⟩ => by exact h81 (by rw [(hR x (by omega) (fd_h c1)).2.2.1, c2]))
          exact xa_fgk (ih (by omega) (sk.2 hN)) (And.intro rfl (And.intro rfl (And.intro rfl (And.intro rfl (And.intro rfl (And.intro (by rw [sk.1]) (And.intro rfl (And.intro rfl trivial))))))))
        · refine xa_aload_n (pc := 84) dX8_find_84 rfl ?_
          refine xa_getA (pc := 85) 8 29 160 lfX8_92 dX8_find_85 xm_o rfl rfl rfl ?_
          refine xa_iload (pc := 88) dX8_find_88 rfl ?_
          refine xa_ialdN (pc := 90) ((32 * h) + x) dX8_find_90 xm_160 rfl (xa_pa (xa_pm rfl rfl) rfl) (by show _ < 384; omega) (by decide) ?_
          refine xa_iload_n (pc := 91) dX8_find_91 rfl ?_
          refine xa_iand (pc := 92) dX8_find_92 ?_
          refine xa_iload_n (pc := 93) dX8_find_93 rfl ?_
          refine xa_icmp_eq (pc := 94) 100 dX8_find_94 (by decide) (fun h94 => ?_) (fun h94 => ?_)
          · refine xa_iload (pc := 100) dX8_find_100 rfl ?_
            refine xa_if_ne (pc := 102) 108 dX8_find_102 (by decide) (fun h102 => ?_) (fun h102 => ?_)
            · refine xa_iinc (pc := 108) dX8_find_108 rfl (by decide) rfl ?_
              refine xa_iinc (pc := 111) (v := nI (x + 1)) dX8_find_111 rfl (by decide) (nI_1 _) ?_
              refine xa_goto (pc := 114) (tgt := 33) dX8_find_114 (by decide) ?_
              have hf : cq_fd S h kd m x = true := by simp [cq_fd, h58, h69, h94]
              have hn : xc (S 159 (32 * h + x)) = n := by rw [h81]; exact xc_n (by omega)
              have hne : ¬ nI (fn_c ns S h kd m n x) = k := by grind
              have e5 : k - nI (fn_c ns S h kd m n x) + (-1) = k - nI (fn_c ns S h kd m n (x + 1)) := by rw [fn_hit (by omega) hf hn, ← nI_1]; grind
              exact xa_fgk (ih (by omega) (fun o ho hfo hc => by
              by_cases e : o = x
              · subst e; rw [fn_ah hR ho hfo hn]; exact hne
              · exact hN o ho hfo (hc.imp id (fun z => ⟨z.1, by omega⟩)))) (And.intro rfl (And.intro rfl (And.intro rfl (And.intro rfl (And.intro rfl (And.intro (congrArg (fun z => some (Value.int z)) e5) (And.intro rfl (And.intro rfl trivial))))))))
            · refine xa_iload (pc := 105) dX8_find_105 rfl ?_
              have hf : cq_fd S h kd m x = true := by simp [cq_fd, h58, h69, h94]
              have hn : xc (S 159 (32 * h + x)) = n := by rw [h81]; exact xc_n (by omega)
              exact xa_zret dX8_find_107 rfl rfl ⟨congrArg (fun z => some (Value.int z)) (fn_is hR w2 (by omega) hf hn hN (by grind)), rfl, rfl⟩
          · refine xa_goto (pc := 97) (tgt := 111) dX8_find_97 (by decide) ?_
            refine xa_iinc (pc := 111) (v := nI (x + 1)) dX8_find_111 rfl (by decide) (nI_1 _) ?_
            refine xa_goto (pc := 114) (tgt := 33) dX8_find_114 (by decide) ?_
            have sk := fn_skip (ns := ns) (S := S) (h := h) (n := n) (x := x) (kd := kd) (m := m) (k := k) (fun ⟨c1, c2⟩ => by simp [cq_fd, h94] at c1)
            exact xa_fgk (ih (by omega) (sk.2 hN)) (And.intro rfl (And.intro rfl (And.intro rfl (And.intro rfl (And.intro rfl (And.intro (by rw [sk.1]) (And.intro rfl (And.intro rfl trivial))))))))
set_option maxHeartbeats 4000000 in
theorem lm_fi22 (E : xa_EV) (S : xa_AH) {nh ns : Nat} (hW : xm_wf nh ns S) {h : Nat} (hh : h < 12) (kd m k : Int32) (hR : xm_rn ns S h) : ∀ n, n ≤ 251 → 1 ≤ n → fn_N ns S h kd m k n 0 → xa_W E mX8_find (xa_Z E mX8_find xm_L (xa_pR (.int (xm_first (xm_fnp ns S h kd m k) ns)) S xm_R)) 0 0 22 [some (.ref 130), some (.int (nI h)), some (.int kd), some (.int m), some (.int k), some (.int (k - nI (fn_c ns S h kd m n 0))), some (.int (nI n)), none, none] [] xm_L S xm_R := by
  refine xa_dn (fun n hxl ih => ?_)
  intro hn1 hN
  obtain ⟨w1, w2, w3, w4, w5⟩ := id hW
  refine xa_iload (pc := 22) dX8_find_22 rfl ?_
  refine xa_sipush (pc := 24) (v := 250) dX8_find_24 (by decide) ?_
  refine xa_icmp_gt (pc := 27) 123 dX8_find_27 (by decide) (fun h27 => ?_) (fun h27 => ?_)
  · refine xa_iconst (pc := 123) (v := (-1)) dX8_find_123 (by decide) ?_
    have q27 := h27
    rw [fa_lt, nI_toInt (by omega)] at q27
    have e : n = 251 := by have e2 : (250 : Int32).toInt = 250 := rfl; rw [e2] at q27; omega
    subst e
    exact xa_zret dX8_find_124 rfl rfl ⟨congrArg (fun z => some (Value.int z)) (fn_end hR hN), rfl, rfl⟩
  · refine xa_iconst (pc := 30) (v := 0) dX8_find_30 (by decide) ?_
    refine xa_istore (pc := 31) dX8_find_31 (by decide) ?_
    have q27 := h27
    rw [fa_lt, nI_toInt (by omega)] at q27
    have hn250 : n ≤ 250 := by have e2 : (250 : Int32).toInt = 250 := rfl; rw [e2] at q27; omega
    refine xa_fgk (lm_fi33 E S hW hh kd m k hR (n := n) hn250 (fun hN2 => ?_) 0 (Nat.zero_le _) hN) (And.intro rfl (And.intro rfl (And.intro rfl (And.intro rfl (And.intro rfl (And.intro rfl (And.intro rfl (And.intro rfl trivial))))))))
    refine xa_iinc (pc := 117) (v := nI (n + 1)) dX8_find_117 rfl (by decide) (nI_1 _) ?_
    refine xa_goto (pc := 120) (tgt := 22) dX8_find_120 (by decide) ?_
    exact xa_fgk (ih (by omega) (by omega) (fun o ho hfo hc => hN2 o ho hfo (by omega))) (And.intro rfl (And.intro rfl (And.intro rfl (And.intro rfl (And.intro rfl (And.intro (by rw [fn_next]) (And.intro rfl trivial)))))))
set_option maxHeartbeats 4000000 in
theorem cm_find (E : xa_EV) (S : xa_AH) {nh ns : Nat} (hW : xm_wf nh ns S) (hR : ∀ h, h < nh → xm_rn ns S h) (h kd m k : Int32) : xa_Ct E mX8_find [.ref 130, .int h, .int kd, .int m, .int k] xm_L S xm_R (xa_pR (.int (xm_find nh ns S h kd m k)) S xm_R) := by
  refine xa_Ct.of [some (.ref 130), some (.int h), some (.int kd), some (.int m), some (.int k), none, none, none, none] rfl (Nat.le_of_ble_eq_true rfl) (by simp [Value.category]) rfl ?_
  obtain ⟨w1, w2, w3, w4, w5⟩ := id hW
  refine xa_aload_n (pc := 0) dX8_find_0 rfl ?_
  refine xa_iload_n (pc := 1) dX8_find_1 rfl ?_
  refine xa_callV (pc := 2) xm_o rfl rfl lcX8_163 dX8_find_2 (cm_isHost E _ hW _) rfl rfl (by decide) (Nat.le_of_ble_eq_true rfl) (by decide) ?_
  rintro _ _ _ ⟨rfl, rfl, rfl⟩
  refine xa_if_eq (pc := 5) 13 dX8_find_5 (by decide) (fun h5 => ?_) (fun h5 => ?_)
  · have h5 := xa_b_0.mp h5
    refine xa_iconst (pc := 13) (v := (-1)) dX8_find_13 (by decide) ?_
    rw [show xm_find nh ns S h kd m k = _ from if_neg (by simp [h5])]
    exact xa_zret dX8_find_14 rfl rfl ⟨rfl, rfl, rfl⟩
  · have h5 := xa_b_n0.mp h5
    refine xa_iload (pc := 8) dX8_find_8 rfl ?_
    refine xa_if_ge (pc := 10) 15 dX8_find_10 (by decide) (fun h10 => ?_) (fun h10 => ?_)
    · have hv1 := (xm_isH_t (by omega)).mp h5
      have hb1 : xc h < nh := xa_in_lt hv1
      refine xa_iload (pc := 15) dX8_find_15 rfl ?_
      refine xa_istore (pc := 17) dX8_find_17 (by decide) ?_
      refine xa_iconst (pc := 19) (v := 1) dX8_find_19 (by decide) ?_
      refine xa_istore (pc := 20) dX8_find_20 (by decide) ?_
      rw [show xm_find nh ns S h kd m k = _ from if_pos (by simp [h5, h10])]
      exact xa_fgk (lm_fi22 E S hW (h := xc h) (by omega) kd m k (hR _ hb1) 1 (by omega) (by omega) (fun o ho hfo hc => by have r := hR _ hb1 o ho (fd_h hfo); omega)) (And.intro rfl (And.intro (congrArg (fun z => some (Value.int z)) (xa_in_eq hv1)) (And.intro rfl (And.intro rfl (And.intro rfl (And.intro (by rw [fn_0 (hR _ hb1), show k - nI 0 = k from Int32.sub_zero k]) (And.intro rfl trivial)))))))
    · refine xa_iconst (pc := 13) (v := (-1)) dX8_find_13 (by decide) ?_
      rw [show xm_find nh ns S h kd m k = _ from if_neg (by simp [h5, h10])]
      exact xa_zret dX8_find_14 rfl rfl ⟨rfl, rfl, rfl⟩
