/-- the names of the hosts -/
def xm_nm (nh : Nat) (S : xa_AH) : Prop := ∀ h, h < nh → vp_in (S 133 h) 251 ∧ vp_in (S 134 h) 251
/-- the search for the next free name: the name at hand, and whether it is free -/
def xm_ys (ns : Nat) (S : xa_AH) (h : Int32) (s : Nat) (lo hg : Int32) (q : Int32 × Bool) : Int32 × Bool := if q.2 = true then q else ((if q.1 = hg then lo else q.1 + 1), !xa_any (xm_np S h (if q.1 = hg then lo else q.1 + 1) (nI s)) ns)
def xm_yn (ns : Nat) (S : xa_AH) (h : Int32) (s : Nat) (lo hg : Int32) : Nat → Int32 × Bool
  | 0 => (S 148 s, false)
  | i + 1 => xm_ys ns S h s lo hg (xm_yn ns S h s lo hg i)
theorem xm_yn_stay {ns : Nat} {S : xa_AH} {h : Int32} {s : Nat} {lo hg : Int32} {i : Nat} (hf : (xm_yn ns S h s lo hg i).2 = true) : ∀ j, i ≤ j → xm_yn ns S h s lo hg j = xm_yn ns S h s lo hg i := by
  intro j hj
  induction j with
  | zero => have : i = 0 := by omega
            rw [this]
  | succ j ihj =>
    by_cases hij : i = j + 1
    · rw [hij]
    · have e := ihj (by omega)
      rw [xm_yn, e, xm_ys, if_pos hf]
def xm_yl3 (S : xa_AH) (s : Nat) (q : Int32 × Bool) : xa_AH := (xa_up (xa_up (xa_up (xa_up (xa_up (xa_up S 148 s (if q.2 = true then q.1 else S 148 s)) 151 s 1) 152 s 3) 153 s (-1)) 154 s (S 154 s + 1)) 130 39 (S 130 39 + 1))
def xm_yl4 (S : xa_AH) (h : Nat) : xa_AH := if S 136 h = 1 then (xa_up (xm_wakes S h) 130 42 (S 130 42 + 1)) else S
def xm_yl2 (ns : Nat) (S : xa_AH) (s : Nat) : xa_AH := xm_yl4 (xm_yl3 S s (xm_yn ns S (S 146 s) s (S 133 (xc (S 146 s))) (S 134 (xc (S 146 s))) (xc (S 134 (xc (S 146 s))) - xc (S 133 (xc (S 146 s)))))) (xc (S 146 s))
def xm_yld (ns : Nat) (S : xa_AH) (s : Nat) : xa_AH := xm_yl2 ns (if S 151 s = 2 then xa_up S 155 s 1 else S) s
theorem xm_wf_yld {nh ns s : Nat} {S : xa_AH} (h : xm_wf nh ns S) : xm_wf nh ns (xm_yld ns S s) := by
  have h1 : xm_wf nh ns (if S 151 s = 2 then xa_up S 155 s 1 else S) := by
    split
    · exact xm_wf_up h rfl
    · exact h
  unfold xm_yld
  generalize (if S 151 s = 2 then xa_up S 155 s 1 else S) = T at h1 ⊢
  unfold xm_yl2
  have h2 : ∀ q, xm_wf nh ns (xm_yl3 T s q) := fun q => xm_wf_up (xm_wf_up (xm_wf_up (xm_wf_up (xm_wf_up (xm_wf_up h1 rfl) rfl) rfl) rfl) rfl) rfl
  unfold xm_yl4
  split
  · exact xm_wf_up (xm_wf_up (xm_wf_up (h2 _) rfl) rfl) rfl
  · exact h2 _
theorem xm_nm_up {nh a k : Nat} {S : xa_AH} {v : Int32} (h : xm_nm nh S) (ho : (!(a == 133) && !(a == 134)) = true) : xm_nm nh (xa_up S a k v) := by
  simp only [Bool.and_eq_true, Bool.not_eq_true', beq_eq_false_iff_ne] at ho
  intro x hx
  have e1 : xa_up S a k v 133 x = S 133 x := by unfold xa_up; rw [if_neg]; rintro ⟨rfl, -⟩; exact ho.1 rfl
  have e2 : xa_up S a k v 134 x = S 134 x := by unfold xa_up; rw [if_neg]; rintro ⟨rfl, -⟩; exact ho.2 rfl
  rw [e1, e2]; exact h x hx
theorem xm_nm_yld {nh ns s : Nat} {S : xa_AH} (h : xm_nm nh S) : xm_nm nh (xm_yld ns S s) := by
  have h1 : xm_nm nh (if S 151 s = 2 then xa_up S 155 s 1 else S) := by
    split
    · exact xm_nm_up h rfl
    · exact h
  unfold xm_yld
  generalize (if S 151 s = 2 then xa_up S 155 s 1 else S) = T at h1 ⊢
  unfold xm_yl2
  have h2 : ∀ q, xm_nm nh (xm_yl3 T s q) := fun q => xm_nm_up (xm_nm_up (xm_nm_up (xm_nm_up (xm_nm_up (xm_nm_up h1 rfl) rfl) rfl) rfl) rfl) rfl
  unfold xm_yl4
  split
  · exact xm_nm_up (xm_nm_up (xm_nm_up (h2 _) rfl) rfl) rfl
  · exact h2 _
theorem xm_wf_due {nh ns h s : Nat} {S : xa_AH} {v : Int32} (hw : xm_wf nh ns S) : xm_wf nh ns (xm_due S h s v) := by
  unfold xm_due; split
  · exact xm_wf_up hw rfl
  · exact hw
theorem xm_nm_due {nh h s : Nat} {S : xa_AH} {v : Int32} (hw : xm_nm nh S) : xm_nm nh (xm_due S h s v) := by
  unfold xm_due; split
  · exact xm_nm_up hw rfl
  · exact hw
def xm_kep (S : xa_AH) (net b : Int32) (h : Nat) : Bool := !decide (nI h = b) && (decide (S 136 h = 2) && (decide (¬ S 138 h = 0) && decide (S 131 h = net)))
def xm_first (q : Nat → Bool) : Nat → Int32
  | 0 => -1
  | n + 1 => if xm_first q n = -1 ∧ q n = true then nI n else xm_first q n
theorem xm_first_no {q : Nat → Bool} : ∀ {n : Nat}, (∀ i, i < n → q i = false) → xm_first q n = -1
  | 0, _ => rfl
  | n + 1, h => by rw [xm_first, xm_first_no (fun i hi => h i (by omega)), h n (by omega)]; rfl
theorem xm_first_yes {q : Nat → Bool} {i : Nat} (hno : ∀ j, j < i → q j = false) (hy : q i = true) : ∀ {n : Nat}, i < n → n ≤ 100 → xm_first q n = nI i
  | 0, h, _ => by omega
  | n + 1, h, hn => by
    by_cases e : i = n
    · subst e; rw [xm_first, xm_first_no hno, if_pos ⟨rfl, hy⟩]
    · have h1 := xm_first_yes hno hy (n := n) (by omega) (by omega)
      rw [xm_first, h1, if_neg]
      rintro ⟨h2, -⟩
      have h3 : (nI i).toInt = -1 := by rw [h2]; rfl
      rw [nI_toInt (by omega)] at h3
      omega
set_option maxHeartbeats 4000000 in
theorem lm_keeperOn (E : xa_EV) (S : xa_AH) {nh ns : Nat} (hW : xm_wf nh ns S) (net b : Int32) : ∀ s, s ≤ nh → (∀ i, i < s → xm_kep S net b i = false) → ∀ T, T = S → xa_W E mX8_keeperOn (xa_Z E mX8_keeperOn xm_L (xa_pR (.int (xm_first (xm_kep S net b) nh)) S xm_R)) 0 0 2 [some (.ref 130), some (.int net), some (.int b), some (.int (nI s))] [] xm_L T xm_R := by
  obtain ⟨w1, w2, w3, w4, w5⟩ := id hW
  refine xa_dn (fun s hs ih => ?_)
  intro hno T eT
  have w3 : T 130 14 = nI nh := by rw [eT]; exact w3
  refine xa_iload_n (pc := 2) dX8_keeperOn_2 rfl ?_
  refine xa_aload_n (pc := 3) dX8_keeperOn_3 rfl ?_
  refine xa_getI (pc := 4) 8 14 lfX8_155 dX8_keeperOn_4 xm_o rfl rfl ?_
  refine xa_icmpN_ge (pc := 7) 52 s nh dX8_keeperOn_7 (by decide) rfl w3 (by omega) (by omega) (fun h7 => ?_) (fun h7 => ?_)
  · have g7 : ¬ (s < nh) := by omega
    refine xa_iconst (pc := 52) (v := (-1)) dX8_keeperOn_52 (by decide) ?_
    have es : s = nh := by omega
    subst es; subst eT
    exact xa_zret dX8_keeperOn_53 rfl rfl ⟨congrArg (fun z => some (Value.int z)) (xm_first_no hno), rfl, rfl⟩
  · refine xa_iload_n (pc := 10) dX8_keeperOn_10 rfl ?_
    refine xa_iload_n (pc := 11) dX8_keeperOn_11 rfl ?_
    refine xa_icmp_eq (pc := 12) 46 dX8_keeperOn_12 (by decide) (fun h12 => ?_) (fun h12 => ?_)
    · refine xa_iinc (pc := 46) (v := nI (s + 1)) dX8_keeperOn_46 rfl (by decide) (nI_1 _) ?_
      refine xa_goto (pc := 49) (tgt := 2) dX8_keeperOn_49 (by decide) ?_
      subst eT; exact xa_fgk (ih (by omega) (xa_no_s hno (by simp [xm_kep, *])) _ rfl) (And.intro rfl (And.intro rfl (And.intro rfl (And.intro rfl trivial))))
    · refine xa_aload_n (pc := 15) dX8_keeperOn_15 rfl ?_
      refine xa_getA (pc := 16) 8 5 136 lfX8_25 dX8_keeperOn_16 xm_o rfl rfl rfl ?_
      refine xa_iload_n (pc := 19) dX8_keeperOn_19 rfl ?_
      refine xa_ialdN (pc := 20) s dX8_keeperOn_20 xm_136 rfl rfl (by show _ < 12; omega) (by decide) ?_
      refine xa_iconst (pc := 21) (v := 2) dX8_keeperOn_21 (by decide) ?_
      refine xa_icmp_ne (pc := 22) 46 dX8_keeperOn_22 (by decide) (fun h22 => ?_) (fun h22 => ?_)
      · refine xa_iinc (pc := 46) (v := nI (s + 1)) dX8_keeperOn_46 rfl (by decide) (nI_1 _) ?_
        refine xa_goto (pc := 49) (tgt := 2) dX8_keeperOn_49 (by decide) ?_
        subst eT; exact xa_fgk (ih (by omega) (xa_no_s hno (by simp [xm_kep, *])) _ rfl) (And.intro rfl (And.intro rfl (And.intro rfl (And.intro rfl trivial))))
      · refine xa_aload_n (pc := 25) dX8_keeperOn_25 rfl ?_
        refine xa_getA (pc := 26) 8 7 138 lfX8_32 dX8_keeperOn_26 xm_o rfl rfl rfl ?_
        refine xa_iload_n (pc := 29) dX8_keeperOn_29 rfl ?_
        refine xa_zaldN (pc := 30) s dX8_keeperOn_30 xm_138 rfl rfl (by show _ < 12; omega) (by decide) ?_
        refine xa_if_eq (pc := 31) 46 dX8_keeperOn_31 (by decide) (fun h31 => ?_) (fun h31 => ?_)
        · refine xa_iinc (pc := 46) (v := nI (s + 1)) dX8_keeperOn_46 rfl (by decide) (nI_1 _) ?_
          refine xa_goto (pc := 49) (tgt := 2) dX8_keeperOn_49 (by decide) ?_
          subst eT; exact xa_fgk (ih (by omega) (xa_no_s hno (by simp [xm_kep, *])) _ rfl) (And.intro rfl (And.intro rfl (And.intro rfl (And.intro rfl trivial))))
        · refine xa_aload_n (pc := 34) dX8_keeperOn_34 rfl ?_
          refine xa_getA (pc := 35) 8 0 131 lfX8_9 dX8_keeperOn_35 xm_o rfl rfl rfl ?_
          refine xa_iload_n (pc := 38) dX8_keeperOn_38 rfl ?_
          refine xa_ialdN (pc := 39) s dX8_keeperOn_39 xm_131 rfl rfl (by show _ < 12; omega) (by decide) ?_
          refine xa_iload_n (pc := 40) dX8_keeperOn_40 rfl ?_
          refine xa_icmp_ne (pc := 41) 46 dX8_keeperOn_41 (by decide) (fun h41 => ?_) (fun h41 => ?_)
          · refine xa_iinc (pc := 46) (v := nI (s + 1)) dX8_keeperOn_46 rfl (by decide) (nI_1 _) ?_
            refine xa_goto (pc := 49) (tgt := 2) dX8_keeperOn_49 (by decide) ?_
            subst eT; exact xa_fgk (ih (by omega) (xa_no_s hno (by simp [xm_kep, *])) _ rfl) (And.intro rfl (And.intro rfl (And.intro rfl (And.intro rfl trivial))))
          · refine xa_iload_n (pc := 44) dX8_keeperOn_44 rfl ?_
            subst eT
            exact xa_zret dX8_keeperOn_45 rfl rfl ⟨congrArg (fun z => some (Value.int z)) (xm_first_yes hno (by simp [xm_kep, *]) (by omega) (by omega)), rfl, rfl⟩
set_option maxHeartbeats 4000000 in
theorem cm_keeperOn (E : xa_EV) (S : xa_AH) {nh ns : Nat} (hW : xm_wf nh ns S) (net b : Int32) : xa_Ct E mX8_keeperOn [.ref 130, .int net, .int b] xm_L S xm_R (xa_pR (.int (xm_first (xm_kep S net b) nh)) S xm_R) := by
  refine xa_Ct.of [some (.ref 130), some (.int net), some (.int b), none] rfl (Nat.le_of_ble_eq_true rfl) (by simp [Value.category]) rfl ?_
  obtain ⟨w1, w2, w3, w4, w5⟩ := id hW
  refine xa_iconst (pc := 0) (v := 0) dX8_keeperOn_0 (by decide) ?_
  refine xa_istore_n (pc := 1) dX8_keeperOn_1 (by decide) ?_
  exact lm_keeperOn E S hW net b 0 (Nat.zero_le _) (fun i hi => absurd hi (Nat.not_lt_zero i)) _ rfl
def xm_car (S : xa_AH) (h : Nat) (k bore net : Int32) : Bool := decide ((S 140 h >>> (k &&& 31)) &&& 1 = 1) && decide ((bore >>> (net &&& 31)) &&& 1 = 0)
set_option maxHeartbeats 4000000 in
theorem cm_isCarried (E : xa_EV) (S : xa_AH) {h : Nat} {xh : Int32} (eh : xh = nI h) (hh : h < 12) (k bore net : Int32) : xa_Ct E mX8_isCarried [.ref 130, .int xh, .int k, .int bore, .int net] xm_L S xm_R (xa_pR (.int (xa_b (xm_car S h k bore net))) S xm_R) := by
  subst eh
  refine xa_Ct.of [some (.ref 130), some (.int (nI h)), some (.int k), some (.int bore), some (.int net)] rfl (Nat.le_of_ble_eq_true rfl) (by simp [Value.category]) rfl ?_
  refine xa_aload_n (pc := 0) dX8_isCarried_0 rfl ?_
  refine xa_getA (pc := 1) 8 9 140 lfX8_38 dX8_isCarried_1 xm_o rfl rfl rfl ?_
  refine xa_iload_n (pc := 4) dX8_isCarried_4 rfl ?_
  refine xa_ialdN (pc := 5) h dX8_isCarried_5 xm_140 rfl rfl (by show _ < 12; omega) (by decide) ?_
  refine xa_iload_n (pc := 6) dX8_isCarried_6 rfl ?_
  refine xa_ishr (pc := 7) dX8_isCarried_7 ?_
  refine xa_iconst (pc := 8) (v := 1) dX8_isCarried_8 (by decide) ?_
  refine xa_iand (pc := 9) dX8_isCarried_9 ?_
  refine xa_iconst (pc := 10) (v := 1) dX8_isCarried_10 (by decide) ?_
  refine xa_icmp_ne (pc := 11) 27 dX8_isCarried_11 (by decide) (fun h11 => ?_) (fun h11 => ?_)
  · refine xa_iconst (pc := 27) (v := 0) dX8_isCarried_27 (by decide) ?_
    exact xa_zret dX8_isCarried_28 rfl (by decide) ⟨xa_r0 (by simp [xm_car, *]), rfl, rfl⟩
  · refine xa_iload_n (pc := 14) dX8_isCarried_14 rfl ?_
    refine xa_iload (pc := 15) dX8_isCarried_15 rfl ?_
    refine xa_ishr (pc := 17) dX8_isCarried_17 ?_
    refine xa_iconst (pc := 18) (v := 1) dX8_isCarried_18 (by decide) ?_
    refine xa_iand (pc := 19) dX8_isCarried_19 ?_
    refine xa_if_ne (pc := 20) 27 dX8_isCarried_20 (by decide) (fun h20 => ?_) (fun h20 => ?_)
    · refine xa_iconst (pc := 27) (v := 0) dX8_isCarried_27 (by decide) ?_
      exact xa_zret dX8_isCarried_28 rfl (by decide) ⟨xa_r0 (by simp [xm_car, *]), rfl, rfl⟩
    · refine xa_iconst (pc := 23) (v := 1) dX8_isCarried_23 (by decide) ?_
      refine xa_goto (pc := 24) (tgt := 28) dX8_isCarried_24 (by decide) ?_
      exact xa_zret dX8_isCarried_28 rfl (by decide) ⟨xa_r1 (by simp [xm_car, *]), rfl, rfl⟩
