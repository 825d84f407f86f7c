theorem an_count {sz th dn mdn nn mnn la ma ne me p1 rx rm : Int32} {v : Nat → TV} {u : Nat → DV} {w : Nat → NV} {Fi Ma Db Go Sp Ds Dp No : Nat → Int32} (hc : cpT sz th v Fi Ma Db Go Sp) (e : ne = me) (ed : dn = mdn) (en : nn = mnn) (el : la = ma) (hd : cpD dn u Ds Dp) (hn : cpN nn w No)
    (hx : coP sz dn nn la v u w ne.toInt p1.toInt rx.toInt) (hm : coP th mdn mnn ma (mTV Fi Ma Db Go Sp) (mDV Ds Dp) (mNV No) me.toInt p1.toInt rm.toInt) : rx = rm := by
  have es := hc.1
  subst es; subst e; subst ed; subst en; subst el
  have c1 : gnN v sz.toInt.toNat = gnN (mTV Fi Ma Db Go Sp) sz.toInt.toNat := cnC_eq (fun k hk => by rw [(cp_teq hc (i := k) (by omega)).2.2.2.1])
  have c2 : allN (mtM v ne.toInt) sz.toInt.toNat sz.toInt.toNat = allN (mtM (mTV Fi Ma Db Go Sp) ne.toInt) sz.toInt.toNat sz.toInt.toNat := allN_eq (fun t u h1 h2 => mt_tr hc (by omega) (by omega) _) _ (Nat.le_refl _)
  have c3 : ∀ a b : Nat, dsN v sz.toInt.toNat u a b dn.toInt.toNat = dsN (mTV Fi Ma Db Go Sp) sz.toInt.toNat (mDV Ds Dp) a b dn.toInt.toNat := fun a b => cnC_eq (fun d hd2 => by
    have q : dtN v sz.toInt.toNat (u d) = dtN (mTV Fi Ma Db Go Sp) sz.toInt.toNat (mDV Ds Dp d) := by
      rw [hd d (by omega)]
      exact cntP_eq (fun k hk => hold_cp hc (by omega) _)
    rw [q])
  have c4 : hdN w nn.toInt.toNat = hdN (mNV No) nn.toInt.toNat := cnC_eq (fun k hk => by rw [hn k (by omega)])
  refine Int32.toInt_inj.mp ?_
  unfold coP at hx hm
  rw [c1, c2, c3, c3, c3, c4] at hx
  omega
