/-! ===== what the law needs besides ===== -/
theorem RX.wi {nh ns k : Nat} {pw : Nat → Nat} {L : List Nat} {T : xa_AH} {R : xa_AR} {S : xa_AH} (hX : RX nh ns k pw L T R S) (hF : xm_fb S) : xm_wi nh ns S := ⟨hX.xm_wf, hX.nm, hF⟩
theorem RX.hPx {nh ns k : Nat} {pw : Nat → Nat} {L : List Nat} {T : xa_AH} {R : xa_AR} {S : xa_AH} (hX : RX nh ns k pw L T R S) : ∀ h, h < nh → S 136 h = 1 → vp_in (S 141 h) nh := fun h hh e => (hX.ih_px hh e).1
theorem RX.hRn {nh ns k : Nat} {pw : Nat → Nat} {L : List Nat} {T : xa_AH} {R : xa_AR} {S : xa_AH} (hX : RX nh ns k pw L T R S) : ∀ h, h < nh → xm_rn ns S h := fun h hh o ho c => by
  have n32 := hX.n32
  have z := hX.ir_lt hh (show o < 32 by omega) c
  have z2 := z.2.2
  rw [fa_le, fa_le] at z2
  have e1 : (1 : Int32).toInt = 1 := rfl
  have e2 : (250 : Int32).toInt = 250 := rfl
  rw [e1, e2] at z2
  have v : vp_in (S 159 (32 * h + o)) 251 := vp_in_iff.mpr ⟨by omega, by omega⟩
  have e : S 159 (32 * h + o) = nI (xc (S 159 (32 * h + o))) := xa_in_eq v
  have l : xc (S 159 (32 * h + o)) < 251 := xa_in_lt v
  have t : (S 159 (32 * h + o)).toInt = ((xc (S 159 (32 * h + o)) : Nat) : Int) := by
    have q := nI_toInt (show xc (S 159 (32 * h + o)) < 2 ^ 31 by omega)
    rw [← e] at q; exact q
  exact ⟨by omega, by omega, e, fun x hx c2 e3 => hX.ir_ap hh (show o < 32 by omega) x (by omega) c c2 e3⟩
section FBS
variable {nh ns : Nat} {S : xa_AH}
theorem fb_goes {s : Nat} {b : Int32} (h : xm_fb S) : xm_fb (xm_goes S s b) := by
  unfold xm_goes
  refine fb_up (fb_up (fb_up ?_ (Or.inl (by decide))) (Or.inl (by decide))) (Or.inl (by decide))
  split
  · exact fb_up h (Or.inl (by decide))
  · exact h
theorem fb_comes {h k n m l : Int32} (hF : xm_fb S) : xm_fb (xm_comes ns S h k n m l) := by
  unfold xm_comes
  exact (fb_up (fb_up (fb_up (fb_up (fb_up (fb_up (fb_up (fb_up (fb_up hF (Or.inl (by decide))) (Or.inl (by decide))) (Or.inl (by decide))) (Or.inl (by decide))) (Or.inl (by decide))) (Or.inl (by decide))) (Or.inl (by decide))) (Or.inl (by decide))) (Or.inl (by decide)))
theorem fb_wakes {h : Nat} (hF : xm_fb S) : xm_fb (xm_wakes S h) := by unfold xm_wakes; exact (fb_up (fb_up hF (Or.inl (by decide))) (Or.inl (by decide)))
theorem fb_host {net lo hg rk : Int32} (hF : xm_fb S) : xm_fb (xm_host nh ns S net lo hg rk).2 := by
  unfold xm_host; split
  · exact (fb_up (fb_up (fb_up (fb_up (fb_up (fb_up (fb_up (fb_up hF (Or.inl (by decide))) (Or.inl (by decide))) (Or.inl (by decide))) (Or.inl (by decide))) (Or.inl (by decide))) (Or.inl (by decide))) (Or.inl (by decide))) (Or.inl (by decide)))
  · exact hF
theorem fb_offer {h k n m l : Int32} (hF : xm_fb S) : xm_fb (xm_offer nh ns S h k n m l).2 := by
  unfold xm_offer; split
  · exact fb_comes hF
  · exact hF
theorem fb_lie {h k n m l : Int32} (hF : xm_fb S) : xm_fb (xm_lie nh ns S h k n m l).2 := by
  unfold xm_lie; split
  · exact fb_up (fb_up (fb_up (fb_up (fb_comes hF) (Or.inl (by decide))) (Or.inl (by decide))) (Or.inl (by decide))) (Or.inl (by decide))
  · exact hF
theorem fb_drop {s : Int32} (hF : xm_fb S) : xm_fb (xm_drop nh ns S s).2 := by
  unfold xm_drop; split
  · exact fb_goes hF
  · exact hF
theorem fb_change {s m : Int32} (hF : xm_fb S) : xm_fb (xm_change nh ns S s m).2 := by
  unfold xm_change; split
  · show xm_fb (if _ then _ else _)
    split
    · exact (fb_up (fb_up hF (Or.inl (by decide))) (Or.inl (by decide)))
    · exact (fb_up hF (Or.inl (by decide)))
  · exact hF
theorem fb_ask {h k m : Int32} (hF : xm_fb S) : xm_fb (xm_ask nh ns S h k m).2 := by
  unfold xm_ask; split
  · exact (fb_up (fb_up (fb_up hF (Or.inl (by decide))) (Or.inl (by decide))) (Or.inl (by decide)))
  · exact hF
theorem fb_sleep {h q : Int32} (hF : xm_fb S) : xm_fb (xm_sleep nh ns S h q).2 := by
  unfold xm_sleep; split
  · exact (fb_up (fb_up hF (Or.inl (by decide))) (Or.inl (by decide)))
  · exact hF
theorem fb_wake {h : Int32} (hF : xm_fb S) : xm_fb (xm_wake nh ns S h).2 := by
  unfold xm_wake; split
  · exact fb_wakes hF
  · exact hF
theorem fb_fall {h : Int32} (hF : xm_fb S) : xm_fb (xm_fall nh ns S h).2 := by
  unfold xm_fall; split
  · refine fb_gone (xa_lp_inv hF (fun i U _ hU => ?_))
    unfold xm_fa1; split
    · exact fb_up (fb_goes hU) (Or.inl (by decide))
    · exact hU
  · exact hF
theorem fb_leave {h : Int32} (hF : xm_fb S) : xm_fb (xm_leave nh ns S h).2 := by
  unfold xm_leave; split
  · refine xa_lp_inv (xa_lp_inv (fb_up hF (Or.inl (by decide))) (fun i U _ hU => ?_)) (fun i U _ hU => ?_)
    · unfold xm_le1; split
      · exact fb_goes hU
      · exact hU
    · unfold xm_le2; split
      · exact fb_up (fb_wakes hU) (Or.inl (by decide))
      · exact hU
  · exact hF
theorem fb_keeper {h : Int32} {bq : Bool} (hF : xm_fb S) : xm_fb (xm_keeper nh ns S h bq).2 := by
  unfold xm_keeper; split
  · exact (fb_up hF (Or.inl (by decide)))
  · exact hF
theorem fb_bridge {h net kd : Int32} (hF : xm_fb S) : xm_fb (xm_bridge nh ns S h net kd).2 := by
  unfold xm_bridge; split
  · show xm_fb (xm_brS S (xc h) net kd)
    unfold xm_brS
    exact fb_of (S := xa_up (xa_up (xa_up S 139 (xc h) 1) 132 (xc h) net) 140 (xc h) kd) (fb_up (fb_up (fb_up hF (Or.inl (by decide))) (Or.inl (by decide))) (Or.inl (by decide))) (by funext y; rw [emp_e, if_neg (by omega), if_neg (by omega)]) (by funext y; rw [emp_e, if_neg (by omega), if_neg (by omega)])
  · exact hF
theorem fb_lose {h n : Int32} (hF : xm_fb S) : xm_fb (xm_lose nh ns S h n).2 := by
  unfold xm_lose; split
  · exact (fb_up hF (Or.inl (by decide)))
  · exact hF
theorem fb_deaf {h n : Int32} (hF : xm_fb S) : xm_fb (xm_deaf nh ns S h n).2 := by
  unfold xm_deaf; split
  · exact (fb_up hF (Or.inl (by decide)))
  · exact hF
theorem fb_join {a b : Int32} (hF : xm_fb S) : xm_fb (xm_join nh ns S a b).2 := by
  unfold xm_join; split
  · refine xa_lp_inv (xa_lp_inv hF (fun i U _ hU => ?_)) (fun i U _ hU => ?_)
    · unfold xm_jo1; exact fb_up (fb_up hU (Or.inl (by decide))) (Or.inl (by decide))
    · unfold xm_jo2; split
      · exact fb_up hU (Or.inl (by decide))
      · exact hU
  · exact hF
theorem fb_tick {n : Int32} (hI : xm_wi nh ns S) : xm_fb (xm_tick nh ns S n).2 := by
  unfold xm_tick; split
  · exact (wi_tks hI).2.2
  · exact hI.2.2
theorem fb_reach {h s : Int32} (hF : xm_fb S) : xm_fb (xm_reach nh ns S h s).2 := by
  unfold xm_reach; split
  · unfold xm_rch
    split
    · split
      · split
        · exact hF
        · split
          · split
            · exact fb_up (fb_wakes hF) (Or.inl (by decide))
            · exact hF
          · exact hF
      · exact hF
    · exact hF
  · exact hF
end FBS
