set_option maxHeartbeats 4000000 in
set_option maxRecDepth 100000 in
theorem c_Parts_has (l : Launch) (dC : Nat → ClassId) (dI : Nat → Nat → Nat) (sz : Nat) (cZ : ClassId) (cB : ClassId) (cI : ClassId) (cG : ClassId) (cJ : ClassId) (x : Int32)  : Met l yX1_has wsX1_has ({ frames := 0, cells := 0, slots := 0, locals := 0 }) (va_Pc [.int x] (my_P (dC, dI) vwCl [(cZ, .boolean), (cB, .byte), (cI, .int), (cG, .array .byte), (cJ, .array .int)] sz [])) (my_Qi (pt_has x) (dC, dI) vwCl [(cZ, .boolean), (cB, .byte), (cI, .int), (cG, .array .byte), (cJ, .array .int)] [] (va_A [] sz)) 0 0 (va_A [] sz) := by
  refine my_met (cc := cX1_has) (maxL := 1) (ret9 := (some .boolean)) (fun A => my_Qi (pt_has x) (dC, dI) vwCl [(cZ, .boolean), (cB, .byte), (cI, .int), (cG, .array .byte), (cJ, .array .int)] [] A) (by decide) rfl (Nat.le_of_ble_eq_true rfl) ?_
  intro p e s m below meth c A ls hx hb hr hlocks hml hown hin hts hl hK hP hD hS hA
  have hown : s.vm.findClass RX1 = some m.cls := hown
  have hl : lv_has ls 1 [(0, .int x)] := hl
  obtain ⟨H, hH⟩ : ∃ H, H = s.heap := ⟨_, rfl⟩
  have hP : va_P (dC, dI) vwCl [] H := by rw [hH]; exact hP
  have hS : va_S A s.heap H [] := by rw [hH]; exact hS
  rw [← hH]
  refine lv_iload_n hx hb dX1_has_0 rfl (lv_at hl 0 rfl) ?_
  refine lv_iconst (v := 1) hx hb dX1_has_1 (by decide) ?_
  refine lv_icmp_lt (tgt := 15) hx hb dX1_has_2 (by decide) (fun c_1 => ?_) (fun c_1 => ?_)
  · refine lv_iconst (v := 0) hx hb dX1_has_15 (by decide) ?_
    have hP9 : va_P (dC, dI) vwCl [] H := hP.sub [] rfl
    have hD9 : va_D A [] := hD.sub [] (by decide) rfl
    have eF : pt_has x = 0 := by simp only [pt_has, if_pos c_1]
    exact my_zr hx hb hr hlocks rfl hK (by first | (rw [eF]; exact hP9) | exact hP9) (by first | (rw [eF]; exact hD9) | exact hD9) hS (by rw [eF]) dX1_has_16
  · refine lv_iload_n hx hb dX1_has_5 rfl (lv_at hl 0 rfl) ?_
    refine lv_bipush (v := 20) hx hb dX1_has_6 (by decide) ?_
    refine lv_icmp_gt (tgt := 15) hx hb dX1_has_8 (by decide) (fun c_2 => ?_) (fun c_2 => ?_)
    · refine lv_iconst (v := 0) hx hb dX1_has_15 (by decide) ?_
      have hP9 : va_P (dC, dI) vwCl [] H := hP.sub [] rfl
      have hD9 : va_D A [] := hD.sub [] (by decide) rfl
      have eF : pt_has x = 0 := by simp only [pt_has, if_neg c_1, if_pos c_2]
      exact my_zr hx hb hr hlocks rfl hK (by first | (rw [eF]; exact hP9) | exact hP9) (by first | (rw [eF]; exact hD9) | exact hD9) hS (by rw [eF]) dX1_has_16
    · refine lv_iconst (v := 1) hx hb dX1_has_11 (by decide) ?_
      refine lv_goto (tgt := 16) hx hb dX1_has_12 (by decide) ?_
      have hP9 : va_P (dC, dI) vwCl [] H := hP.sub [] rfl
      have hD9 : va_D A [] := hD.sub [] (by decide) rfl
      have eF : pt_has x = 1 := by simp only [pt_has, if_neg c_1, if_neg c_2]
      exact my_zr hx hb hr hlocks rfl hK (by first | (rw [eF]; exact hP9) | exact hP9) (by first | (rw [eF]; exact hD9) | exact hD9) hS (by rw [eF]) dX1_has_16
set_option maxHeartbeats 4000000 in
set_option maxRecDepth 100000 in
theorem c_Parts_howMany (l : Launch) (dC : Nat → ClassId) (dI : Nat → Nat → Nat) (sz : Nat) (cZ : ClassId) (cB : ClassId) (cI : ClassId) (cG : ClassId) (cJ : ClassId) (hP_ : Nat) (hT : Nat) (hL : Nat) (hF : Nat) (pn : Int32) (hG : Nat) (tn : Int32)  : Met l yX1_howMany wsX1_howMany ({ frames := 0, cells := 0, slots := 0, locals := 0 }) (va_Pc [.ref hP_] (my_P (dC, dI) vwCl [(cZ, .boolean), (cB, .byte), (cI, .int), (cG, .array .byte), (cJ, .array .int)] sz [(hP_, .inr (3, [.ref hT, .ref hL, .ref hF, .int pn, .ref hG, .int tn]))])) (my_Qi pn (dC, dI) vwCl [(cZ, .boolean), (cB, .byte), (cI, .int), (cG, .array .byte), (cJ, .array .int)] [(hP_, .inr (3, [.ref hT, .ref hL, .ref hF, .int pn, .ref hG, .int tn]))] (va_A [(hP_, .inr (3, [.ref hT, .ref hL, .ref hF, .int pn, .ref hG, .int tn]))] sz)) 0 0 (va_A [(hP_, .inr (3, [.ref hT, .ref hL, .ref hF, .int pn, .ref hG, .int tn]))] sz) := by
  refine my_met (cc := cX1_howMany) (maxL := 1) (ret9 := (some .int)) (fun A => my_Qi pn (dC, dI) vwCl [(cZ, .boolean), (cB, .byte), (cI, .int), (cG, .array .byte), (cJ, .array .int)] [(hP_, .inr (3, [.ref hT, .ref hL, .ref hF, .int pn, .ref hG, .int tn]))] A) (by decide) rfl (Nat.le_of_ble_eq_true rfl) ?_
  intro p e s m below meth c A ls hx hb hr hlocks hml hown hin hts hl hK hP hD hS hA
  have hown : s.vm.findClass RX1 = some m.cls := hown
  have hl : lv_has ls 1 [(0, .ref hP_)] := hl
  obtain ⟨H, hH⟩ : ∃ H, H = s.heap := ⟨_, rfl⟩
  have hP : va_P (dC, dI) vwCl [(hP_, .inr (3, [.ref hT, .ref hL, .ref hF, .int pn, .ref hG, .int tn]))] H := by rw [hH]; exact hP
  have hS : va_S A s.heap H [] := by rw [hH]; exact hS
  rw [← hH]
  refine lv_aload_n hx hb dX1_howMany_0 rfl (lv_at hl 0 rfl) ?_
  refine va_get (D := (dC, dI)) (ci := 3) (v := .int pn) (C := RX1) (T := TX1) (N := 6) hx hb hts (by decide +kernel) hown hK hP 0 rfl rfl 3 (by decide) (hts (.fieldLink RX1 23 "StartSleep$Parts" "count" "I") (by decide +kernel)) (fun _ h9 => h9) rfl dX1_howMany_1 ?_
  have hP9 : va_P (dC, dI) vwCl [(hP_, .inr (3, [.ref hT, .ref hL, .ref hF, .int pn, .ref hG, .int tn]))] H := hP.sub [0] rfl
  have hD9 : va_D A [(hP_, .inr (3, [.ref hT, .ref hL, .ref hF, .int pn, .ref hG, .int tn]))] := hD.sub [0] (by decide) rfl
  exact my_ir hx hb hr hlocks hK hP9 hD9 hS rfl dX1_howMany_4
set_option maxHeartbeats 4000000 in
set_option maxRecDepth 100000 in
theorem c_Parts_tell (l : Launch) (dC : Nat → ClassId) (dI : Nat → Nat → Nat) (sz : Nat) (cZ : ClassId) (cB : ClassId) (cI : ClassId) (cG : ClassId) (cJ : ClassId) (hP_ : Nat) (hT : Nat) (hL : Nat) (hF : Nat) (pn : Int32) (hG : Nat) (tn : Int32) (td : Nat → Int32) (pl : Nat → Int32) (fl : Nat → Int32) (p_ : Int32) (o_ : Int32) (f_ : Int32)  : Met l yX1_tell wsX1_tell ({ frames := 2, cells := 0, slots := 0, locals := 100 }) (va_Pc [.ref hP_, .int p_, .int o_, .int f_] (my_P (dC, dI) vwCl [(cZ, .boolean), (cB, .byte), (cI, .int), (cG, .array .byte), (cJ, .array .int)] sz [(hP_, .inr (3, [.ref hT, .ref hL, .ref hF, .int pn, .ref hG, .int tn])), (hT, .inl (cZ, 21, .inl td)), (hL, .inl (cI, 21, .inl pl)), (hF, .inl (cZ, 21, .inl fl))])) (my_Qv (dC, dI) vwCl [(cZ, .boolean), (cB, .byte), (cI, .int), (cG, .array .byte), (cJ, .array .int)] [(hP_, .inr (3, [.ref hT, .ref hL, .ref hF, .int ((pt_tell td pl fl pn p_ o_ f_).2.2.2), .ref hG, .int tn])), (hT, .inl (cZ, 21, .inl ((pt_tell td pl fl pn p_ o_ f_).1))), (hL, .inl (cI, 21, .inl ((pt_tell td pl fl pn p_ o_ f_).2.1))), (hF, .inl (cZ, 21, .inl ((pt_tell td pl fl pn p_ o_ f_).2.2.1)))] (va_A [(hP_, .inr (3, [.ref hT, .ref hL, .ref hF, .int pn, .ref hG, .int tn])), (hT, .inl (cZ, 21, .inl td)), (hL, .inl (cI, 21, .inl pl)), (hF, .inl (cZ, 21, .inl fl))] sz)) 0 0 (va_A [(hP_, .inr (3, [.ref hT, .ref hL, .ref hF, .int pn, .ref hG, .int tn])), (hT, .inl (cZ, 21, .inl td)), (hL, .inl (cI, 21, .inl pl)), (hF, .inl (cZ, 21, .inl fl))] sz) := by
  refine my_met (cc := cX1_tell) (maxL := 4) (ret9 := none) (fun A => my_Qv (dC, dI) vwCl [(cZ, .boolean), (cB, .byte), (cI, .int), (cG, .array .byte), (cJ, .array .int)] [(hP_, .inr (3, [.ref hT, .ref hL, .ref hF, .int ((pt_tell td pl fl pn p_ o_ f_).2.2.2), .ref hG, .int tn])), (hT, .inl (cZ, 21, .inl ((pt_tell td pl fl pn p_ o_ f_).1))), (hL, .inl (cI, 21, .inl ((pt_tell td pl fl pn p_ o_ f_).2.1))), (hF, .inl (cZ, 21, .inl ((pt_tell td pl fl pn p_ o_ f_).2.2.1)))] A) (by decide) rfl (Nat.le_of_ble_eq_true rfl) ?_
  intro p e s m below meth c A ls hx hb hr hlocks hml hown hin hts hl hK hP hD hS hA
  have hown : s.vm.findClass RX1 = some m.cls := hown
  have hl : lv_has ls 4 [(0, .ref hP_), (1, .int p_), (2, .int o_), (3, .int f_)] := hl
  obtain ⟨H, hH⟩ : ∃ H, H = s.heap := ⟨_, rfl⟩
  have hP : va_P (dC, dI) vwCl [(hP_, .inr (3, [.ref hT, .ref hL, .ref hF, .int pn, .ref hG, .int tn])), (hT, .inl (cZ, 21, .inl td)), (hL, .inl (cI, 21, .inl pl)), (hF, .inl (cZ, 21, .inl fl))] H := by rw [hH]; exact hP
  have hS : va_S A s.heap H [] := by rw [hH]; exact hS
  rw [← hH]
  refine lv_iload_n hx hb dX1_tell_0 rfl (lv_at hl 1 rfl) ?_
  refine my_ci (wr := [(hP_, .inr (3, [.ref hT, .ref hL, .ref hF, .int pn, .ref hG, .int tn])), (hT, .inl (cZ, 21, .inl td)), (hL, .inl (cI, 21, .inl pl)), (hF, .inl (cZ, 21, .inl fl))]) hP hD hS hA [] [0, 1, 2, 3] (my_S (As := [.int p_]) (rest := []) ⟨hx, hb, hml, hown, hts⟩ (c_Parts_has l dC dI H.size cZ cB cI cG cJ p_ ) (va_cwS 1 hts gX1_tell_X1_has rfl rfl rfl (by decide +kernel) ⟨Nat.le_of_ble_eq_true rfl, Nat.le_of_ble_eq_true rfl⟩) hK hP hD [] rfl (by decide) rfl hl.1 rfl (Nat.le_of_ble_eq_true rfl) dX1_tell_1 ⟨Nat.zero_le _, Nat.zero_le _⟩) rfl rfl (by decide) (by decide) (fun H locs hP hD hS => ?_)
  have hP : va_P (dC, dI) vwCl [(hP_, .inr (3, [.ref hT, .ref hL, .ref hF, .int pn, .ref hG, .int tn])), (hT, .inl (cZ, 21, .inl td)), (hL, .inl (cI, 21, .inl pl)), (hF, .inl (cZ, 21, .inl fl))] H := hP
  have hD : va_D A [(hP_, .inr (3, [.ref hT, .ref hL, .ref hF, .int pn, .ref hG, .int tn])), (hT, .inl (cZ, 21, .inl td)), (hL, .inl (cI, 21, .inl pl)), (hF, .inl (cZ, 21, .inl fl))] := hD
  refine lv_if_ne (tgt := 8) hx hb dX1_tell_4 (by decide) (fun c_1 => ?_) (fun c_1 => ?_)
  · refine lv_aload_n hx hb dX1_tell_8 rfl (lv_at hl 0 rfl) ?_
    refine va_get (D := (dC, dI)) (ci := 3) (v := .ref hT) (C := RX1) (T := TX1) (N := 6) hx hb hts (by decide +kernel) hown hK hP 0 rfl rfl 0 (by decide) (hts (.fieldLink RX1 9 "StartSleep$Parts" "told" "[Z") (by decide +kernel)) (fun _ h9 => h9) rfl dX1_tell_9 ?_
    refine lv_iload_n hx hb dX1_tell_12 rfl (lv_at hl 1 rfl) ?_
    refine va_zald hx hb hK hP 1 0 rfl rfl (pt_has_in c_1) dX1_tell_13 ?_
    refine lv_if_ne (tgt := 34) hx hb dX1_tell_14 (by decide) (fun c_2 => ?_) (fun c_2 => ?_)
    · refine lv_aload_n hx hb dX1_tell_34 rfl (lv_at hl 0 rfl) ?_
      refine va_get (D := (dC, dI)) (ci := 3) (v := .ref hL) (C := RX1) (T := TX1) (N := 6) hx hb hts (by decide +kernel) hown hK hP 0 rfl rfl 1 (by decide) (hts (.fieldLink RX1 13 "StartSleep$Parts" "places" "[I") (by decide +kernel)) (fun _ h9 => h9) rfl dX1_tell_35 ?_
      refine lv_iload_n hx hb dX1_tell_38 rfl (lv_at hl 1 rfl) ?_
      refine lv_iload_n hx hb dX1_tell_39 rfl (lv_at hl 2 rfl) ?_
      refine lv_bipush (v := 21) hx hb dX1_tell_40 (by decide) ?_
      refine lv_imul hx hb dX1_tell_42 ?_
      refine lv_iload_n hx hb dX1_tell_43 rfl (lv_at hl 1 rfl) ?_
      refine lv_iadd hx hb dX1_tell_44 ?_
      refine va_iast hx hb hK hP hD hS 2 2 rfl rfl (pt_has_in c_1) dX1_tell_45 (fun H locs hP hD hS => ?_)
      have hP : va_P (dC, dI) vwCl [(hP_, .inr (3, [.ref hT, .ref hL, .ref hF, .int pn, .ref hG, .int tn])), (hT, .inl (cZ, 21, .inl td)), (hL, .inl (cI, 21, .inl (upd pl (p_.toNatClampNeg) ((o_ * 21) + p_)))), (hF, .inl (cZ, 21, .inl fl))] H := hP
      have hD : va_D A [(hP_, .inr (3, [.ref hT, .ref hL, .ref hF, .int pn, .ref hG, .int tn])), (hT, .inl (cZ, 21, .inl td)), (hL, .inl (cI, 21, .inl (upd pl (p_.toNatClampNeg) ((o_ * 21) + p_)))), (hF, .inl (cZ, 21, .inl fl))] := hD
      refine lv_aload_n hx hb dX1_tell_46 rfl (lv_at hl 0 rfl) ?_
      refine va_get (D := (dC, dI)) (ci := 3) (v := .ref hF) (C := RX1) (T := TX1) (N := 6) hx hb hts (by decide +kernel) hown hK hP 0 rfl rfl 2 (by decide) (hts (.fieldLink RX1 17 "StartSleep$Parts" "failing" "[Z") (by decide +kernel)) (fun _ h9 => h9) rfl dX1_tell_47 ?_
      refine lv_iload_n hx hb dX1_tell_50 rfl (lv_at hl 1 rfl) ?_
      refine lv_iload_n hx hb dX1_tell_51 rfl (lv_at hl 3 rfl) ?_
      refine va_zast hx hb hK hP hD hS 3 0 rfl rfl (pt_has_in c_1) dX1_tell_52 (fun H locs hP hD hS => ?_)
      have hP : va_P (dC, dI) vwCl [(hP_, .inr (3, [.ref hT, .ref hL, .ref hF, .int pn, .ref hG, .int tn])), (hT, .inl (cZ, 21, .inl td)), (hL, .inl (cI, 21, .inl (upd pl (p_.toNatClampNeg) ((o_ * 21) + p_)))), (hF, .inl (cZ, 21, .inl (upd fl (p_.toNatClampNeg) (vp_nar .boolean f_))))] H := hP
      have hD : va_D A [(hP_, .inr (3, [.ref hT, .ref hL, .ref hF, .int pn, .ref hG, .int tn])), (hT, .inl (cZ, 21, .inl td)), (hL, .inl (cI, 21, .inl (upd pl (p_.toNatClampNeg) ((o_ * 21) + p_)))), (hF, .inl (cZ, 21, .inl (upd fl (p_.toNatClampNeg) (vp_nar .boolean f_))))] := hD
      have hP9 : va_P (dC, dI) vwCl [(hP_, .inr (3, [.ref hT, .ref hL, .ref hF, .int pn, .ref hG, .int tn])), (hT, .inl (cZ, 21, .inl td)), (hL, .inl (cI, 21, .inl (upd pl (p_.toNatClampNeg) ((o_ * 21) + p_)))), (hF, .inl (cZ, 21, .inl (upd fl (p_.toNatClampNeg) (vp_nar .boolean f_))))] H := hP.sub [0, 1, 2, 3] rfl
      have hD9 : va_D A [(hP_, .inr (3, [.ref hT, .ref hL, .ref hF, .int pn, .ref hG, .int tn])), (hT, .inl (cZ, 21, .inl td)), (hL, .inl (cI, 21, .inl (upd pl (p_.toNatClampNeg) ((o_ * 21) + p_)))), (hF, .inl (cZ, 21, .inl (upd fl (p_.toNatClampNeg) (vp_nar .boolean f_))))] := hD.sub [0, 1, 2, 3] (by decide) rfl
      have eF : pt_tell td pl fl pn p_ o_ f_ = (td, (upd pl (p_.toNatClampNeg) ((o_ * 21) + p_)), (upd fl (p_.toNatClampNeg) (vp_nar .boolean f_)), pn) := by simp only [pt_tell, if_neg c_1, if_neg c_2]
      exact my_vr hx hb hr hlocks hK (by first | (rw [eF]; exact hP9) | exact hP9) (by first | (rw [eF]; exact hD9) | exact hD9) hS dX1_tell_53
    · refine lv_aload_n hx hb dX1_tell_17 rfl (lv_at hl 0 rfl) ?_
      refine va_get (D := (dC, dI)) (ci := 3) (v := .ref hT) (C := RX1) (T := TX1) (N := 6) hx hb hts (by decide +kernel) hown hK hP 0 rfl rfl 0 (by decide) (hts (.fieldLink RX1 9 "StartSleep$Parts" "told" "[Z") (by decide +kernel)) (fun _ h9 => h9) rfl dX1_tell_18 ?_
      refine lv_iload_n hx hb dX1_tell_21 rfl (lv_at hl 1 rfl) ?_
      refine lv_iconst (v := 1) hx hb dX1_tell_22 (by decide) ?_
      refine va_zast hx hb hK hP hD hS 1 0 rfl rfl (pt_has_in c_1) dX1_tell_23 (fun H locs hP hD hS => ?_)
      have hP : va_P (dC, dI) vwCl [(hP_, .inr (3, [.ref hT, .ref hL, .ref hF, .int pn, .ref hG, .int tn])), (hT, .inl (cZ, 21, .inl (upd td (p_.toNatClampNeg) (vp_nar .boolean 1)))), (hL, .inl (cI, 21, .inl pl)), (hF, .inl (cZ, 21, .inl fl))] H := hP
      have hD : va_D A [(hP_, .inr (3, [.ref hT, .ref hL, .ref hF, .int pn, .ref hG, .int tn])), (hT, .inl (cZ, 21, .inl (upd td (p_.toNatClampNeg) (vp_nar .boolean 1)))), (hL, .inl (cI, 21, .inl pl)), (hF, .inl (cZ, 21, .inl fl))] := hD
      refine lv_aload_n hx hb dX1_tell_24 rfl (lv_at hl 0 rfl) ?_
      refine lv_dup hx hb dX1_tell_25 rfl ?_
      refine va_get (D := (dC, dI)) (ci := 3) (v := .int pn) (C := RX1) (T := TX1) (N := 6) hx hb hts (by decide +kernel) hown hK hP 0 rfl rfl 3 (by decide) (hts (.fieldLink RX1 23 "StartSleep$Parts" "count" "I") (by decide +kernel)) (fun _ h9 => h9) rfl dX1_tell_26 ?_
      refine lv_iconst (v := 1) hx hb dX1_tell_29 (by decide) ?_
      refine lv_iadd hx hb dX1_tell_30 ?_
      refine va_put (D := (dC, dI)) (ci := 3) (v := .int (pn + 1)) (ty := .int) (C := RX1) (T := TX1) (N := 6) hx hb hts (by decide +kernel) tyX1 tyX1_ok nmX1 hown hK hP hD hS 0 rfl rfl 3 (by decide) (hts (.fieldLink RX1 23 "StartSleep$Parts" "count" "I") (by decide +kernel)) (fun _ h9 => h9) rfl (by decide +kernel) rfl rfl (Nat.le_of_ble_eq_true rfl) dX1_tell_31 (fun H locs hP hD hS => ?_)
      have hP : va_P (dC, dI) vwCl [(hP_, .inr (3, [.ref hT, .ref hL, .ref hF, .int (pn + 1), .ref hG, .int tn])), (hT, .inl (cZ, 21, .inl (upd td (p_.toNatClampNeg) (vp_nar .boolean 1)))), (hL, .inl (cI, 21, .inl pl)), (hF, .inl (cZ, 21, .inl fl))] H := hP
      have hD : va_D A [(hP_, .inr (3, [.ref hT, .ref hL, .ref hF, .int (pn + 1), .ref hG, .int tn])), (hT, .inl (cZ, 21, .inl (upd td (p_.toNatClampNeg) (vp_nar .boolean 1)))), (hL, .inl (cI, 21, .inl pl)), (hF, .inl (cZ, 21, .inl fl))] := hD
      refine lv_aload_n hx hb dX1_tell_34 rfl (lv_at hl 0 rfl) ?_
      refine va_get (D := (dC, dI)) (ci := 3) (v := .ref hL) (C := RX1) (T := TX1) (N := 6) hx hb hts (by decide +kernel) hown hK hP 0 rfl rfl 1 (by decide) (hts (.fieldLink RX1 13 "StartSleep$Parts" "places" "[I") (by decide +kernel)) (fun _ h9 => h9) rfl dX1_tell_35 ?_
      refine lv_iload_n hx hb dX1_tell_38 rfl (lv_at hl 1 rfl) ?_
      refine lv_iload_n hx hb dX1_tell_39 rfl (lv_at hl 2 rfl) ?_
      refine lv_bipush (v := 21) hx hb dX1_tell_40 (by decide) ?_
      refine lv_imul hx hb dX1_tell_42 ?_
      refine lv_iload_n hx hb dX1_tell_43 rfl (lv_at hl 1 rfl) ?_
      refine lv_iadd hx hb dX1_tell_44 ?_
      refine va_iast hx hb hK hP hD hS 2 2 rfl rfl (pt_has_in c_1) dX1_tell_45 (fun H locs hP hD hS => ?_)
      have hP : va_P (dC, dI) vwCl [(hP_, .inr (3, [.ref hT, .ref hL, .ref hF, .int (pn + 1), .ref hG, .int tn])), (hT, .inl (cZ, 21, .inl (upd td (p_.toNatClampNeg) (vp_nar .boolean 1)))), (hL, .inl (cI, 21, .inl (upd pl (p_.toNatClampNeg) ((o_ * 21) + p_)))), (hF, .inl (cZ, 21, .inl fl))] H := hP
      have hD : va_D A [(hP_, .inr (3, [.ref hT, .ref hL, .ref hF, .int (pn + 1), .ref hG, .int tn])), (hT, .inl (cZ, 21, .inl (upd td (p_.toNatClampNeg) (vp_nar .boolean 1)))), (hL, .inl (cI, 21, .inl (upd pl (p_.toNatClampNeg) ((o_ * 21) + p_)))), (hF, .inl (cZ, 21, .inl fl))] := hD
      refine lv_aload_n hx hb dX1_tell_46 rfl (lv_at hl 0 rfl) ?_
      refine va_get (D := (dC, dI)) (ci := 3) (v := .ref hF) (C := RX1) (T := TX1) (N := 6) hx hb hts (by decide +kernel) hown hK hP 0 rfl rfl 2 (by decide) (hts (.fieldLink RX1 17 "StartSleep$Parts" "failing" "[Z") (by decide +kernel)) (fun _ h9 => h9) rfl dX1_tell_47 ?_
      refine lv_iload_n hx hb dX1_tell_50 rfl (lv_at hl 1 rfl) ?_
      refine lv_iload_n hx hb dX1_tell_51 rfl (lv_at hl 3 rfl) ?_
      refine va_zast hx hb hK hP hD hS 3 0 rfl rfl (pt_has_in c_1) dX1_tell_52 (fun H locs hP hD hS => ?_)
      have hP : va_P (dC, dI) vwCl [(hP_, .inr (3, [.ref hT, .ref hL, .ref hF, .int (pn + 1), .ref hG, .int tn])), (hT, .inl (cZ, 21, .inl (upd td (p_.toNatClampNeg) (vp_nar .boolean 1)))), (hL, .inl (cI, 21, .inl (upd pl (p_.toNatClampNeg) ((o_ * 21) + p_)))), (hF, .inl (cZ, 21, .inl (upd fl (p_.toNatClampNeg) (vp_nar .boolean f_))))] H := hP
      have hD : va_D A [(hP_, .inr (3, [.ref hT, .ref hL, .ref hF, .int (pn + 1), .ref hG, .int tn])), (hT, .inl (cZ, 21, .inl (upd td (p_.toNatClampNeg) (vp_nar .boolean 1)))), (hL, .inl (cI, 21, .inl (upd pl (p_.toNatClampNeg) ((o_ * 21) + p_)))), (hF, .inl (cZ, 21, .inl (upd fl (p_.toNatClampNeg) (vp_nar .boolean f_))))] := hD
      have hP9 : va_P (dC, dI) vwCl [(hP_, .inr (3, [.ref hT, .ref hL, .ref hF, .int (pn + 1), .ref hG, .int tn])), (hT, .inl (cZ, 21, .inl (upd td (p_.toNatClampNeg) (vp_nar .boolean 1)))), (hL, .inl (cI, 21, .inl (upd pl (p_.toNatClampNeg) ((o_ * 21) + p_)))), (hF, .inl (cZ, 21, .inl (upd fl (p_.toNatClampNeg) (vp_nar .boolean f_))))] H := hP.sub [0, 1, 2, 3] rfl
      have hD9 : va_D A [(hP_, .inr (3, [.ref hT, .ref hL, .ref hF, .int (pn + 1), .ref hG, .int tn])), (hT, .inl (cZ, 21, .inl (upd td (p_.toNatClampNeg) (vp_nar .boolean 1)))), (hL, .inl (cI, 21, .inl (upd pl (p_.toNatClampNeg) ((o_ * 21) + p_)))), (hF, .inl (cZ, 21, .inl (upd fl (p_.toNatClampNeg) (vp_nar .boolean f_))))] := hD.sub [0, 1, 2, 3] (by decide) rfl
      have eF : pt_tell td pl fl pn p_ o_ f_ = ((upd td (p_.toNatClampNeg) (vp_nar .boolean 1)), (upd pl (p_.toNatClampNeg) ((o_ * 21) + p_)), (upd fl (p_.toNatClampNeg) (vp_nar .boolean f_)), (pn + 1)) := by simp only [pt_tell, if_neg c_1, if_pos c_2]
      exact my_vr hx hb hr hlocks hK (by first | (rw [eF]; exact hP9) | exact hP9) (by first | (rw [eF]; exact hD9) | exact hD9) hS dX1_tell_53
  · have hP9 : va_P (dC, dI) vwCl [(hP_, .inr (3, [.ref hT, .ref hL, .ref hF, .int pn, .ref hG, .int tn])), (hT, .inl (cZ, 21, .inl td)), (hL, .inl (cI, 21, .inl pl)), (hF, .inl (cZ, 21, .inl fl))] H := hP.sub [0, 1, 2, 3] rfl
    have hD9 : va_D A [(hP_, .inr (3, [.ref hT, .ref hL, .ref hF, .int pn, .ref hG, .int tn])), (hT, .inl (cZ, 21, .inl td)), (hL, .inl (cI, 21, .inl pl)), (hF, .inl (cZ, 21, .inl fl))] := hD.sub [0, 1, 2, 3] (by decide) rfl
    have eF : pt_tell td pl fl pn p_ o_ f_ = (td, pl, fl, pn) := by simp only [pt_tell, if_pos c_1]
    exact my_vr hx hb hr hlocks hK (by first | (rw [eF]; exact hP9) | exact hP9) (by first | (rw [eF]; exact hD9) | exact hD9) hS dX1_tell_7
set_option maxHeartbeats 4000000 in
set_option maxRecDepth 100000 in
theorem c_Parts_thing (l : Launch) (dC : Nat → ClassId) (dI : Nat → Nat → Nat) (sz : Nat) (cZ : ClassId) (cB : ClassId) (cI : ClassId) (cG : ClassId) (cJ : ClassId) (hP_ : Nat) (hT : Nat) (hL : Nat) (hF : Nat) (pn : Int32) (hG : Nat) (tn : Int32) (th : Nat → Int32) (i : Int32)  : Met l yX1_thing wsX1_thing ({ frames := 0, cells := 0, slots := 0, locals := 0 }) (va_Pc [.ref hP_, .int i] (my_P (dC, dI) vwCl [(cZ, .boolean), (cB, .byte), (cI, .int), (cG, .array .byte), (cJ, .array .int)] sz [(hP_, .inr (3, [.ref hT, .ref hL, .ref hF, .int pn, .ref hG, .int tn])), (hG, .inl (cI, 40, .inl th))])) (my_Qi (pt_thing th tn i) (dC, dI) vwCl [(cZ, .boolean), (cB, .byte), (cI, .int), (cG, .array .byte), (cJ, .array .int)] [(hP_, .inr (3, [.ref hT, .ref hL, .ref hF, .int pn, .ref hG, .int tn])), (hG, .inl (cI, 40, .inl th))] (va_A [(hP_, .inr (3, [.ref hT, .ref hL, .ref hF, .int pn, .ref hG, .int tn])), (hG, .inl (cI, 40, .inl th))] sz)) 0 0 (va_A [(hP_, .inr (3, [.ref hT, .ref hL, .ref hF, .int pn, .ref hG, .int tn])), (hG, .inl (cI, 40, .inl th))] sz) := by
  refine my_met (cc := cX1_thing) (maxL := 2) (ret9 := (some .int)) (fun A => my_Qi (pt_thing th tn i) (dC, dI) vwCl [(cZ, .boolean), (cB, .byte), (cI, .int), (cG, .array .byte), (cJ, .array .int)] [(hP_, .inr (3, [.ref hT, .ref hL, .ref hF, .int pn, .ref hG, .int tn])), (hG, .inl (cI, 40, .inl th))] A) (by decide) rfl (Nat.le_of_ble_eq_true rfl) ?_
  intro p e s m below meth c A ls hx hb hr hlocks hml hown hin hts hl hK hP hD hS hA
  have hown : s.vm.findClass RX1 = some m.cls := hown
  have hl : lv_has ls 2 [(0, .ref hP_), (1, .int i)] := hl
  obtain ⟨H, hH⟩ : ∃ H, H = s.heap := ⟨_, rfl⟩
  have hP : va_P (dC, dI) vwCl [(hP_, .inr (3, [.ref hT, .ref hL, .ref hF, .int pn, .ref hG, .int tn])), (hG, .inl (cI, 40, .inl th))] H := by rw [hH]; exact hP
  have hS : va_S A s.heap H [] := by rw [hH]; exact hS
  rw [← hH]
  refine lv_iload_n hx hb dX1_thing_0 rfl (lv_at hl 1 rfl) ?_
  refine lv_if_lt (tgt := 30) hx hb dX1_thing_1 (by decide) (fun c_1 => ?_) (fun c_1 => ?_)
  · refine lv_iconst (v := 0) hx hb dX1_thing_30 (by decide) ?_
    have hP9 : va_P (dC, dI) vwCl [(hP_, .inr (3, [.ref hT, .ref hL, .ref hF, .int pn, .ref hG, .int tn])), (hG, .inl (cI, 40, .inl th))] H := hP.sub [0, 1] rfl
    have hD9 : va_D A [(hP_, .inr (3, [.ref hT, .ref hL, .ref hF, .int pn, .ref hG, .int tn])), (hG, .inl (cI, 40, .inl th))] := hD.sub [0, 1] (by decide) rfl
    have eF : pt_thing th tn i = 0 := by simp only [pt_thing, if_pos c_1]
    exact my_ir hx hb hr hlocks hK (by first | (rw [eF]; exact hP9) | exact hP9) (by first | (rw [eF]; exact hD9) | exact hD9) hS (by rw [eF]) dX1_thing_31
  · refine lv_iload_n hx hb dX1_thing_4 rfl (lv_at hl 1 rfl) ?_
    refine lv_aload_n hx hb dX1_thing_5 rfl (lv_at hl 0 rfl) ?_
    refine va_get (D := (dC, dI)) (ci := 3) (v := .int tn) (C := RX1) (T := TX1) (N := 6) hx hb hts (by decide +kernel) hown hK hP 0 rfl rfl 5 (by decide) (hts (.fieldLink RX1 31 "StartSleep$Parts" "thingCount" "I") (by decide +kernel)) (fun _ h9 => h9) rfl dX1_thing_6 ?_
    refine lv_icmp_ge (tgt := 30) hx hb dX1_thing_9 (by decide) (fun c_2 => ?_) (fun c_2 => ?_)
    · refine lv_iconst (v := 0) hx hb dX1_thing_30 (by decide) ?_
      have hP9 : va_P (dC, dI) vwCl [(hP_, .inr (3, [.ref hT, .ref hL, .ref hF, .int pn, .ref hG, .int tn])), (hG, .inl (cI, 40, .inl th))] H := hP.sub [0, 1] rfl
      have hD9 : va_D A [(hP_, .inr (3, [.ref hT, .ref hL, .ref hF, .int pn, .ref hG, .int tn])), (hG, .inl (cI, 40, .inl th))] := hD.sub [0, 1] (by decide) rfl
      have eF : pt_thing th tn i = 0 := by simp only [pt_thing, if_neg c_1, if_pos c_2]
      exact my_ir hx hb hr hlocks hK (by first | (rw [eF]; exact hP9) | exact hP9) (by first | (rw [eF]; exact hD9) | exact hD9) hS (by rw [eF]) dX1_thing_31
    · refine lv_iload_n hx hb dX1_thing_12 rfl (lv_at hl 1 rfl) ?_
      refine lv_aload_n hx hb dX1_thing_13 rfl (lv_at hl 0 rfl) ?_
      refine va_get (D := (dC, dI)) (ci := 3) (v := .ref hG) (C := RX1) (T := TX1) (N := 6) hx hb hts (by decide +kernel) hown hK hP 0 rfl rfl 4 (by decide) (hts (.fieldLink RX1 20 "StartSleep$Parts" "things" "[I") (by decide +kernel)) (fun _ h9 => h9) rfl dX1_thing_14 ?_
      refine va_alen (v := 40) hx hb hK hP 1 2 rfl rfl rfl dX1_thing_17 ?_
      refine lv_icmp_ge (tgt := 30) hx hb dX1_thing_18 (by decide) (fun c_3 => ?_) (fun c_3 => ?_)
      · refine lv_iconst (v := 0) hx hb dX1_thing_30 (by decide) ?_
        have hP9 : va_P (dC, dI) vwCl [(hP_, .inr (3, [.ref hT, .ref hL, .ref hF, .int pn, .ref hG, .int tn])), (hG, .inl (cI, 40, .inl th))] H := hP.sub [0, 1] rfl
        have hD9 : va_D A [(hP_, .inr (3, [.ref hT, .ref hL, .ref hF, .int pn, .ref hG, .int tn])), (hG, .inl (cI, 40, .inl th))] := hD.sub [0, 1] (by decide) rfl
        have eF : pt_thing th tn i = 0 := by simp only [pt_thing, if_neg c_1, if_neg c_2, if_pos c_3]
        exact my_ir hx hb hr hlocks hK (by first | (rw [eF]; exact hP9) | exact hP9) (by first | (rw [eF]; exact hD9) | exact hD9) hS (by rw [eF]) dX1_thing_31
      · refine lv_aload_n hx hb dX1_thing_21 rfl (lv_at hl 0 rfl) ?_
        refine va_get (D := (dC, dI)) (ci := 3) (v := .ref hG) (C := RX1) (T := TX1) (N := 6) hx hb hts (by decide +kernel) hown hK hP 0 rfl rfl 4 (by decide) (hts (.fieldLink RX1 20 "StartSleep$Parts" "things" "[I") (by decide +kernel)) (fun _ h9 => h9) rfl dX1_thing_22 ?_
        refine lv_iload_n hx hb dX1_thing_25 rfl (lv_at hl 1 rfl) ?_
        refine va_iald hx hb hK hP 1 2 rfl rfl (pt_40 c_1 c_3) dX1_thing_26 ?_
        refine lv_goto (tgt := 31) hx hb dX1_thing_27 (by decide) ?_
        have hP9 : va_P (dC, dI) vwCl [(hP_, .inr (3, [.ref hT, .ref hL, .ref hF, .int pn, .ref hG, .int tn])), (hG, .inl (cI, 40, .inl th))] H := hP.sub [0, 1] rfl
        have hD9 : va_D A [(hP_, .inr (3, [.ref hT, .ref hL, .ref hF, .int pn, .ref hG, .int tn])), (hG, .inl (cI, 40, .inl th))] := hD.sub [0, 1] (by decide) rfl
        have eF : pt_thing th tn i = th (i.toNatClampNeg) := by simp only [pt_thing, if_neg c_1, if_neg c_2, if_neg c_3]
        exact my_ir hx hb hr hlocks hK (by first | (rw [eF]; exact hP9) | exact hP9) (by first | (rw [eF]; exact hD9) | exact hD9) hS (by rw [eF]) dX1_thing_31
set_option maxHeartbeats 4000000 in
set_option maxRecDepth 100000 in
theorem c_Parts_note (l : Launch) (dC : Nat → ClassId) (dI : Nat → Nat → Nat) (sz : Nat) (cZ : ClassId) (cB : ClassId) (cI : ClassId) (cG : ClassId) (cJ : ClassId) (hP_ : Nat) (hT : Nat) (hL : Nat) (hF : Nat) (pn : Int32) (hG : Nat) (tn : Int32) (th : Nat → Int32) (x : Int32)  : Met l yX1_note wsX1_note ({ frames := 0, cells := 0, slots := 0, locals := 0 }) (va_Pc [.ref hP_, .int x] (my_P (dC, dI) vwCl [(cZ, .boolean), (cB, .byte), (cI, .int), (cG, .array .byte), (cJ, .array .int)] sz [(hP_, .inr (3, [.ref hT, .ref hL, .ref hF, .int pn, .ref hG, .int tn])), (hG, .inl (cI, 40, .inl th))])) (my_Qv (dC, dI) vwCl [(cZ, .boolean), (cB, .byte), (cI, .int), (cG, .array .byte), (cJ, .array .int)] [(hP_, .inr (3, [.ref hT, .ref hL, .ref hF, .int pn, .ref hG, .int ((pt_note th tn x).2)])), (hG, .inl (cI, 40, .inl ((pt_note th tn x).1)))] (va_A [(hP_, .inr (3, [.ref hT, .ref hL, .ref hF, .int pn, .ref hG, .int tn])), (hG, .inl (cI, 40, .inl th))] sz)) 0 0 (va_A [(hP_, .inr (3, [.ref hT, .ref hL, .ref hF, .int pn, .ref hG, .int tn])), (hG, .inl (cI, 40, .inl th))] sz) := by
  refine my_met (cc := cX1_note) (maxL := 2) (ret9 := none) (fun A => my_Qv (dC, dI) vwCl [(cZ, .boolean), (cB, .byte), (cI, .int), (cG, .array .byte), (cJ, .array .int)] [(hP_, .inr (3, [.ref hT, .ref hL, .ref hF, .int pn, .ref hG, .int ((pt_note th tn x).2)])), (hG, .inl (cI, 40, .inl ((pt_note th tn x).1)))] A) (by decide) rfl (Nat.le_of_ble_eq_true rfl) ?_
  intro p e s m below meth c A ls hx hb hr hlocks hml hown hin hts hl hK hP hD hS hA
  have hown : s.vm.findClass RX1 = some m.cls := hown
  have hl : lv_has ls 2 [(0, .ref hP_), (1, .int x)] := hl
  obtain ⟨H, hH⟩ : ∃ H, H = s.heap := ⟨_, rfl⟩
  have hP : va_P (dC, dI) vwCl [(hP_, .inr (3, [.ref hT, .ref hL, .ref hF, .int pn, .ref hG, .int tn])), (hG, .inl (cI, 40, .inl th))] H := by rw [hH]; exact hP
  have hS : va_S A s.heap H [] := by rw [hH]; exact hS
  rw [← hH]
  refine lv_aload_n hx hb dX1_note_0 rfl (lv_at hl 0 rfl) ?_
  refine va_get (D := (dC, dI)) (ci := 3) (v := .int tn) (C := RX1) (T := TX1) (N := 6) hx hb hts (by decide +kernel) hown hK hP 0 rfl rfl 5 (by decide) (hts (.fieldLink RX1 31 "StartSleep$Parts" "thingCount" "I") (by decide +kernel)) (fun _ h9 => h9) rfl dX1_note_1 ?_
  refine lv_if_lt (tgt := 39) hx hb dX1_note_4 (by decide) (fun c_1 => ?_) (fun c_1 => ?_)
  · have hP9 : va_P (dC, dI) vwCl [(hP_, .inr (3, [.ref hT, .ref hL, .ref hF, .int pn, .ref hG, .int tn])), (hG, .inl (cI, 40, .inl th))] H := hP.sub [0, 1] rfl
    have hD9 : va_D A [(hP_, .inr (3, [.ref hT, .ref hL, .ref hF, .int pn, .ref hG, .int tn])), (hG, .inl (cI, 40, .inl th))] := hD.sub [0, 1] (by decide) rfl
    have eF : pt_note th tn x = (th, tn) := by simp only [pt_note, if_pos c_1]
    exact my_vr hx hb hr hlocks hK (by first | (rw [eF]; exact hP9) | exact hP9) (by first | (rw [eF]; exact hD9) | exact hD9) hS dX1_note_39
  · refine lv_aload_n hx hb dX1_note_7 rfl (lv_at hl 0 rfl) ?_
    refine va_get (D := (dC, dI)) (ci := 3) (v := .int tn) (C := RX1) (T := TX1) (N := 6) hx hb hts (by decide +kernel) hown hK hP 0 rfl rfl 5 (by decide) (hts (.fieldLink RX1 31 "StartSleep$Parts" "thingCount" "I") (by decide +kernel)) (fun _ h9 => h9) rfl dX1_note_8 ?_
    refine lv_aload_n hx hb dX1_note_11 rfl (lv_at hl 0 rfl) ?_
    refine va_get (D := (dC, dI)) (ci := 3) (v := .ref hG) (C := RX1) (T := TX1) (N := 6) hx hb hts (by decide +kernel) hown hK hP 0 rfl rfl 4 (by decide) (hts (.fieldLink RX1 20 "StartSleep$Parts" "things" "[I") (by decide +kernel)) (fun _ h9 => h9) rfl dX1_note_12 ?_
    refine va_alen (v := 40) hx hb hK hP 1 2 rfl rfl rfl dX1_note_15 ?_
    refine lv_icmp_ge (tgt := 39) hx hb dX1_note_16 (by decide) (fun c_2 => ?_) (fun c_2 => ?_)
    · have hP9 : va_P (dC, dI) vwCl [(hP_, .inr (3, [.ref hT, .ref hL, .ref hF, .int pn, .ref hG, .int tn])), (hG, .inl (cI, 40, .inl th))] H := hP.sub [0, 1] rfl
      have hD9 : va_D A [(hP_, .inr (3, [.ref hT, .ref hL, .ref hF, .int pn, .ref hG, .int tn])), (hG, .inl (cI, 40, .inl th))] := hD.sub [0, 1] (by decide) rfl
      have eF : pt_note th tn x = (th, tn) := by simp only [pt_note, if_neg c_1, if_pos c_2]
      exact my_vr hx hb hr hlocks hK (by first | (rw [eF]; exact hP9) | exact hP9) (by first | (rw [eF]; exact hD9) | exact hD9) hS dX1_note_39
    · refine lv_aload_n hx hb dX1_note_19 rfl (lv_at hl 0 rfl) ?_
      refine va_get (D := (dC, dI)) (ci := 3) (v := .ref hG) (C := RX1) (T := TX1) (N := 6) hx hb hts (by decide +kernel) hown hK hP 0 rfl rfl 4 (by decide) (hts (.fieldLink RX1 20 "StartSleep$Parts" "things" "[I") (by decide +kernel)) (fun _ h9 => h9) rfl dX1_note_20 ?_
      refine lv_aload_n hx hb dX1_note_23 rfl (lv_at hl 0 rfl) ?_
      refine va_get (D := (dC, dI)) (ci := 3) (v := .int tn) (C := RX1) (T := TX1) (N := 6) hx hb hts (by decide +kernel) hown hK hP 0 rfl rfl 5 (by decide) (hts (.fieldLink RX1 31 "StartSleep$Parts" "thingCount" "I") (by decide +kernel)) (fun _ h9 => h9) rfl dX1_note_24 ?_
      refine lv_iload_n hx hb dX1_note_27 rfl (lv_at hl 1 rfl) ?_
      refine va_iast hx hb hK hP hD hS 1 2 rfl rfl (pt_40 c_1 c_2) dX1_note_28 (fun H locs hP hD hS => ?_)
      have hP : va_P (dC, dI) vwCl [(hP_, .inr (3, [.ref hT, .ref hL, .ref hF, .int pn, .ref hG, .int tn])), (hG, .inl (cI, 40, .inl (upd th (tn.toNatClampNeg) x)))] H := hP
      have hD : va_D A [(hP_, .inr (3, [.ref hT, .ref hL, .ref hF, .int pn, .ref hG, .int tn])), (hG, .inl (cI, 40, .inl (upd th (tn.toNatClampNeg) x)))] := hD
      refine lv_aload_n hx hb dX1_note_29 rfl (lv_at hl 0 rfl) ?_
      refine lv_dup hx hb dX1_note_30 rfl ?_
      refine va_get (D := (dC, dI)) (ci := 3) (v := .int tn) (C := RX1) (T := TX1) (N := 6) hx hb hts (by decide +kernel) hown hK hP 0 rfl rfl 5 (by decide) (hts (.fieldLink RX1 31 "StartSleep$Parts" "thingCount" "I") (by decide +kernel)) (fun _ h9 => h9) rfl dX1_note_31 ?_
      refine lv_iconst (v := 1) hx hb dX1_note_34 (by decide) ?_
      refine lv_iadd hx hb dX1_note_35 ?_
      refine va_put (D := (dC, dI)) (ci := 3) (v := .int (tn + 1)) (ty := .int) (C := RX1) (T := TX1) (N := 6) hx hb hts (by decide +kernel) tyX1 tyX1_ok nmX1 hown hK hP hD hS 0 rfl rfl 5 (by decide) (hts (.fieldLink RX1 31 "StartSleep$Parts" "thingCount" "I") (by decide +kernel)) (fun _ h9 => h9) rfl (by decide +kernel) rfl rfl (Nat.le_of_ble_eq_true rfl) dX1_note_36 (fun H locs hP hD hS => ?_)
      have hP : va_P (dC, dI) vwCl [(hP_, .inr (3, [.ref hT, .ref hL, .ref hF, .int pn, .ref hG, .int (tn + 1)])), (hG, .inl (cI, 40, .inl (upd th (tn.toNatClampNeg) x)))] H := hP
      have hD : va_D A [(hP_, .inr (3, [.ref hT, .ref hL, .ref hF, .int pn, .ref hG, .int (tn + 1)])), (hG, .inl (cI, 40, .inl (upd th (tn.toNatClampNeg) x)))] := hD
      have hP9 : va_P (dC, dI) vwCl [(hP_, .inr (3, [.ref hT, .ref hL, .ref hF, .int pn, .ref hG, .int (tn + 1)])), (hG, .inl (cI, 40, .inl (upd th (tn.toNatClampNeg) x)))] H := hP.sub [0, 1] rfl
      have hD9 : va_D A [(hP_, .inr (3, [.ref hT, .ref hL, .ref hF, .int pn, .ref hG, .int (tn + 1)])), (hG, .inl (cI, 40, .inl (upd th (tn.toNatClampNeg) x)))] := hD.sub [0, 1] (by decide) rfl
      have eF : pt_note th tn x = ((upd th (tn.toNatClampNeg) x), (tn + 1)) := by simp only [pt_note, if_neg c_1, if_neg c_2]
      exact my_vr hx hb hr hlocks hK (by first | (rw [eF]; exact hP9) | exact hP9) (by first | (rw [eF]; exact hD9) | exact hD9) hS dX1_note_39
set_option maxHeartbeats 4000000 in
set_option maxRecDepth 100000 in
theorem c_Parts_placeBehind (l : Launch) (dC : Nat → ClassId) (dI : Nat → Nat → Nat) (sz : Nat) (cZ : ClassId) (cB : ClassId) (cI : ClassId) (cG : ClassId) (cJ : ClassId) (hP_ : Nat) (hT : Nat) (hL : Nat) (hF : Nat) (pn : Int32) (hG : Nat) (tn : Int32) (td : Nat → Int32) (pl : Nat → Int32) (place : Int32)  : Met l yX1_placeBehind wsX1_placeBehind ({ frames := 0, cells := 0, slots := 0, locals := 0 }) (va_Pc [.ref hP_, .int place] (my_P (dC, dI) vwCl [(cZ, .boolean), (cB, .byte), (cI, .int), (cG, .array .byte), (cJ, .array .int)] sz [(hP_, .inr (3, [.ref hT, .ref hL, .ref hF, .int pn, .ref hG, .int tn])), (hT, .inl (cZ, 21, .inl td)), (hL, .inl (cI, 21, .inl pl))])) (my_Qi (pt_pb td pl place 20 1 (-1)) (dC, dI) vwCl [(cZ, .boolean), (cB, .byte), (cI, .int), (cG, .array .byte), (cJ, .array .int)] [(hP_, .inr (3, [.ref hT, .ref hL, .ref hF, .int pn, .ref hG, .int tn])), (hT, .inl (cZ, 21, .inl td)), (hL, .inl (cI, 21, .inl pl))] (va_A [(hP_, .inr (3, [.ref hT, .ref hL, .ref hF, .int pn, .ref hG, .int tn])), (hT, .inl (cZ, 21, .inl td)), (hL, .inl (cI, 21, .inl pl))] sz)) 0 0 (va_A [(hP_, .inr (3, [.ref hT, .ref hL, .ref hF, .int pn, .ref hG, .int tn])), (hT, .inl (cZ, 21, .inl td)), (hL, .inl (cI, 21, .inl pl))] sz) := by
  refine my_met (cc := cX1_placeBehind) (maxL := 4) (ret9 := (some .int)) (fun A => my_Qi (pt_pb td pl place 20 1 (-1)) (dC, dI) vwCl [(cZ, .boolean), (cB, .byte), (cI, .int), (cG, .array .byte), (cJ, .array .int)] [(hP_, .inr (3, [.ref hT, .ref hL, .ref hF, .int pn, .ref hG, .int tn])), (hT, .inl (cZ, 21, .inl td)), (hL, .inl (cI, 21, .inl pl))] A) (by decide) rfl (Nat.le_of_ble_eq_true rfl) ?_
  intro p e s m below meth c A ls hx hb hr hlocks hml hown hin hts hl hK hP hD hS hA
  have hown : s.vm.findClass RX1 = some m.cls := hown
  have hl : lv_has ls 4 [(0, .ref hP_), (1, .int place)] := hl
  obtain ⟨H, hH⟩ : ∃ H, H = s.heap := ⟨_, rfl⟩
  have hP : va_P (dC, dI) vwCl [(hP_, .inr (3, [.ref hT, .ref hL, .ref hF, .int pn, .ref hG, .int tn])), (hT, .inl (cZ, 21, .inl td)), (hL, .inl (cI, 21, .inl pl))] H := by rw [hH]; exact hP
  have hS : va_S A s.heap H [] := by rw [hH]; exact hS
  rw [← hH]
  refine lv_iconst (v := (-1)) hx hb dX1_placeBehind_0 (by decide) ?_
  refine lv_istore_n (lv' := [(2, .int (-1)), (0, .ref hP_), (1, .int place)]) hx hb dX1_placeBehind_1 rfl hl (by decide) rfl (fun ls hl => ?_)
  refine lv_iconst (v := 1) hx hb dX1_placeBehind_2 (by decide) ?_
  refine lv_istore_n (lv' := [(3, .int 1), (2, .int (-1)), (0, .ref hP_), (1, .int place)]) hx hb dX1_placeBehind_3 rfl hl (by decide) rfl (fun ls hl => ?_)
  have loop : ∀ (k i : Nat) (nx : Int32), (i + k = 21) → (pt_pb td pl place k i nx = pt_pb td pl place 20 1 (-1)) → ∀ (H : Heap) (locs : List Loc) (ls : Array Slot), va_P (dC, dI) vwCl [(hP_, .inr (3, [.ref hT, .ref hL, .ref hF, .int pn, .ref hG, .int tn])), (hT, .inl (cZ, 21, .inl td)), (hL, .inl (cI, 21, .inl pl))] H → va_D A [(hP_, .inr (3, [.ref hT, .ref hL, .ref hF, .int pn, .ref hG, .int tn])), (hT, .inl (cZ, 21, .inl td)), (hL, .inl (cI, 21, .inl pl))] → va_S A s.heap H locs → lv_has ls 4 [(0, .ref hP_), (1, .int place), (2, .int nx), (3, .int (nI i))] → W p l e (headSpec wsX1_placeBehind ({ frames := 0, cells := 0, slots := 0, locals := 0 })).room s m ([.ref hP_, .int place] : List Value).toArray below meth c H locs 0 0 (MQ below (my_Qi (pt_pb td pl place 20 1 (-1)) (dC, dI) vwCl [(cZ, .boolean), (cB, .byte), (cI, .int), (cG, .array .byte), (cJ, .array .int)] [(hP_, .inr (3, [.ref hT, .ref hL, .ref hF, .int pn, .ref hG, .int tn])), (hT, .inl (cZ, 21, .inl td)), (hL, .inl (cI, 21, .inl pl))] A) ([.ref hP_, .int place] : List Value).toArray s 0 0 A) (F0 m 4 ls []) := by
    intro k
    induction k with
    | zero =>
      intro i nx hn hI H locs ls hP hD hS hl
      refine lv_iload_n hx hb dX1_placeBehind_4 rfl (lv_at hl 3 rfl) ?_
      refine lv_bipush (v := 20) hx hb dX1_placeBehind_5 (by decide) ?_
      refine lv_icmp_gt (tgt := 57) hx hb dX1_placeBehind_7 (by decide) (fun c_1 => ?_) (fun c_1 => absurd (by rw [show i = 21 by omega]; decide) c_1)
      refine lv_iload_n hx hb dX1_placeBehind_57 rfl (lv_at hl 2 rfl) ?_
      have hP9 : va_P (dC, dI) vwCl [(hP_, .inr (3, [.ref hT, .ref hL, .ref hF, .int pn, .ref hG, .int tn])), (hT, .inl (cZ, 21, .inl td)), (hL, .inl (cI, 21, .inl pl))] H := hP.sub [0, 1, 2] rfl
      have hD9 : va_D A [(hP_, .inr (3, [.ref hT, .ref hL, .ref hF, .int pn, .ref hG, .int tn])), (hT, .inl (cZ, 21, .inl td)), (hL, .inl (cI, 21, .inl pl))] := hD.sub [0, 1, 2] (by decide) rfl
      have eF : pt_pb td pl place 20 1 (-1) = nx := hI.symm
      exact my_ir hx hb hr hlocks hK (by first | (rw [eF]; exact hP9) | exact hP9) (by first | (rw [eF]; exact hD9) | exact hD9) hS (by rw [eF]) dX1_placeBehind_58
    | succ k ih =>
      intro i nx hn hI H locs ls hP hD hS hl
      refine lv_iload_n hx hb dX1_placeBehind_4 rfl (lv_at hl 3 rfl) ?_
      refine lv_bipush (v := 20) hx hb dX1_placeBehind_5 (by decide) ?_
      refine lv_icmp_gt (tgt := 57) hx hb dX1_placeBehind_7 (by decide) (fun c_2 => absurd c_2 (nI_nlt (a := 20) (by omega) (by decide))) (fun c_2 => ?_)
      refine lv_aload_n hx hb dX1_placeBehind_10 rfl (lv_at hl 0 rfl) ?_
      refine va_get (D := (dC, dI)) (ci := 3) (v := .ref hT) (C := RX1) (T := TX1) (N := 6) hx hb hts (by decide +kernel) hown hK hP 0 rfl rfl 0 (by decide) (hts (.fieldLink RX1 9 "StartSleep$Parts" "told" "[Z") (by decide +kernel)) (fun _ h9 => h9) rfl dX1_placeBehind_11 ?_
      refine lv_iload_n hx hb dX1_placeBehind_14 rfl (lv_at hl 3 rfl) ?_
      refine va_zald hx hb hK hP 1 0 rfl rfl (vp_in_nI (by omega) (by decide)) dX1_placeBehind_15 ?_
      rw [nI_clamp (by omega)]
      refine lv_if_eq (tgt := 51) hx hb dX1_placeBehind_16 (by decide) (fun c_3 => ?_) (fun c_3 => ?_)
      · refine lv_iinc (v := ((nI i) + 1)) (lv' := [(3, .int ((nI i) + 1)), (0, .ref hP_), (1, .int place), (2, .int nx)]) hx hb dX1_placeBehind_51 hl (k := 3) rfl rfl (by decide) rfl (fun ls hl => ?_)
        refine lv_goto (tgt := 4) hx hb dX1_placeBehind_54 (by decide) ?_
        rw [nI_1 i] at hl
        exact ih (i + 1) nx (by omega) (by rw [← hI]; simp only [pt_pb, if_pos c_3]) _ _ ls (hP.sub [0, 1, 2] rfl) (hD.sub [0, 1, 2] (by decide) rfl) hS (lv_sub hl [1, 2, 3, 0] rfl)
      · refine lv_aload_n hx hb dX1_placeBehind_19 rfl (lv_at hl 0 rfl) ?_
        refine va_get (D := (dC, dI)) (ci := 3) (v := .ref hL) (C := RX1) (T := TX1) (N := 6) hx hb hts (by decide +kernel) hown hK hP 0 rfl rfl 1 (by decide) (hts (.fieldLink RX1 13 "StartSleep$Parts" "places" "[I") (by decide +kernel)) (fun _ h9 => h9) rfl dX1_placeBehind_20 ?_
        refine lv_iload_n hx hb dX1_placeBehind_23 rfl (lv_at hl 3 rfl) ?_
        refine va_iald hx hb hK hP 2 2 rfl rfl (vp_in_nI (by omega) (by decide)) dX1_placeBehind_24 ?_
        rw [nI_clamp (by omega)]
        refine lv_iload_n hx hb dX1_placeBehind_25 rfl (lv_at hl 1 rfl) ?_
        refine lv_icmp_le (tgt := 51) hx hb dX1_placeBehind_26 (by decide) (fun c_4 => ?_) (fun c_4 => ?_)
        · refine lv_iinc (v := ((nI i) + 1)) (lv' := [(3, .int ((nI i) + 1)), (0, .ref hP_), (1, .int place), (2, .int nx)]) hx hb dX1_placeBehind_51 hl (k := 3) rfl rfl (by decide) rfl (fun ls hl => ?_)
          refine lv_goto (tgt := 4) hx hb dX1_placeBehind_54 (by decide) ?_
          rw [nI_1 i] at hl
          exact ih (i + 1) nx (by omega) (by rw [← hI]; simp only [pt_pb, if_neg c_3, if_pos c_4]) _ _ ls (hP.sub [0, 1, 2] rfl) (hD.sub [0, 1, 2] (by decide) rfl) hS (lv_sub hl [1, 2, 3, 0] rfl)
        · refine lv_iload_n hx hb dX1_placeBehind_29 rfl (lv_at hl 2 rfl) ?_
          refine lv_iconst (v := (-1)) hx hb dX1_placeBehind_30 (by decide) ?_
          refine lv_icmp_eq (tgt := 44) hx hb dX1_placeBehind_31 (by decide) (fun c_5 => ?_) (fun c_5 => ?_)
          · refine lv_aload_n hx hb dX1_placeBehind_44 rfl (lv_at hl 0 rfl) ?_
            refine va_get (D := (dC, dI)) (ci := 3) (v := .ref hL) (C := RX1) (T := TX1) (N := 6) hx hb hts (by decide +kernel) hown hK hP 0 rfl rfl 1 (by decide) (hts (.fieldLink RX1 13 "StartSleep$Parts" "places" "[I") (by decide +kernel)) (fun _ h9 => h9) rfl dX1_placeBehind_45 ?_
            refine lv_iload_n hx hb dX1_placeBehind_48 rfl (lv_at hl 3 rfl) ?_
            refine va_iald hx hb hK hP 2 2 rfl rfl (vp_in_nI (by omega) (by decide)) dX1_placeBehind_49 ?_
            rw [nI_clamp (by omega)]
            refine lv_istore_n (lv' := [(2, .int (pl i)), (0, .ref hP_), (1, .int place), (3, .int (nI i))]) hx hb dX1_placeBehind_50 rfl hl (by decide) rfl (fun ls hl => ?_)
            refine lv_iinc (v := ((nI i) + 1)) (lv' := [(3, .int ((nI i) + 1)), (2, .int (pl i)), (0, .ref hP_), (1, .int place)]) hx hb dX1_placeBehind_51 hl (k := 3) rfl rfl (by decide) rfl (fun ls hl => ?_)
            refine lv_goto (tgt := 4) hx hb dX1_placeBehind_54 (by decide) ?_
            rw [nI_1 i] at hl
            exact ih (i + 1) (pl i) (by omega) (by rw [← hI]; simp only [pt_pb, if_neg c_3, if_neg c_4, if_pos c_5]) _ _ ls (hP.sub [0, 1, 2] rfl) (hD.sub [0, 1, 2] (by decide) rfl) hS (lv_sub hl [2, 3, 1, 0] rfl)
          · refine lv_aload_n hx hb dX1_placeBehind_34 rfl (lv_at hl 0 rfl) ?_
            refine va_get (D := (dC, dI)) (ci := 3) (v := .ref hL) (C := RX1) (T := TX1) (N := 6) hx hb hts (by decide +kernel) hown hK hP 0 rfl rfl 1 (by decide) (hts (.fieldLink RX1 13 "StartSleep$Parts" "places" "[I") (by decide +kernel)) (fun _ h9 => h9) rfl dX1_placeBehind_35 ?_
            refine lv_iload_n hx hb dX1_placeBehind_38 rfl (lv_at hl 3 rfl) ?_
            refine va_iald hx hb hK hP 2 2 rfl rfl (vp_in_nI (by omega) (by decide)) dX1_placeBehind_39 ?_
            rw [nI_clamp (by omega)]
            refine lv_iload_n hx hb dX1_placeBehind_40 rfl (lv_at hl 2 rfl) ?_
            refine lv_icmp_ge (tgt := 51) hx hb dX1_placeBehind_41 (by decide) (fun c_6 => ?_) (fun c_6 => ?_)
            · refine lv_iinc (v := ((nI i) + 1)) (lv' := [(3, .int ((nI i) + 1)), (0, .ref hP_), (1, .int place), (2, .int nx)]) hx hb dX1_placeBehind_51 hl (k := 3) rfl rfl (by decide) rfl (fun ls hl => ?_)
              refine lv_goto (tgt := 4) hx hb dX1_placeBehind_54 (by decide) ?_
              rw [nI_1 i] at hl
              exact ih (i + 1) nx (by omega) (by rw [← hI]; simp only [pt_pb, if_neg c_3, if_neg c_4, if_neg c_5, if_pos c_6]) _ _ ls (hP.sub [0, 1, 2] rfl) (hD.sub [0, 1, 2] (by decide) rfl) hS (lv_sub hl [1, 2, 3, 0] rfl)
            · refine lv_aload_n hx hb dX1_placeBehind_44 rfl (lv_at hl 0 rfl) ?_
              refine va_get (D := (dC, dI)) (ci := 3) (v := .ref hL) (C := RX1) (T := TX1) (N := 6) hx hb hts (by decide +kernel) hown hK hP 0 rfl rfl 1 (by decide) (hts (.fieldLink RX1 13 "StartSleep$Parts" "places" "[I") (by decide +kernel)) (fun _ h9 => h9) rfl dX1_placeBehind_45 ?_
              refine lv_iload_n hx hb dX1_placeBehind_48 rfl (lv_at hl 3 rfl) ?_
              refine va_iald hx hb hK hP 2 2 rfl rfl (vp_in_nI (by omega) (by decide)) dX1_placeBehind_49 ?_
              rw [nI_clamp (by omega)]
              refine lv_istore_n (lv' := [(2, .int (pl i)), (0, .ref hP_), (1, .int place), (3, .int (nI i))]) hx hb dX1_placeBehind_50 rfl hl (by decide) rfl (fun ls hl => ?_)
              refine lv_iinc (v := ((nI i) + 1)) (lv' := [(3, .int ((nI i) + 1)), (2, .int (pl i)), (0, .ref hP_), (1, .int place)]) hx hb dX1_placeBehind_51 hl (k := 3) rfl rfl (by decide) rfl (fun ls hl => ?_)
              refine lv_goto (tgt := 4) hx hb dX1_placeBehind_54 (by decide) ?_
              rw [nI_1 i] at hl
              exact ih (i + 1) (pl i) (by omega) (by rw [← hI]; simp only [pt_pb, if_neg c_3, if_neg c_4, if_neg c_5, if_neg c_6]) _ _ ls (hP.sub [0, 1, 2] rfl) (hD.sub [0, 1, 2] (by decide) rfl) hS (lv_sub hl [2, 3, 1, 0] rfl)
  exact loop 20 1 (-1) rfl rfl _ _ ls (hP.sub [0, 1, 2] rfl) (hD.sub [0, 1, 2] (by decide) rfl) hS (lv_sub hl [2, 3, 1, 0] rfl)
set_option maxHeartbeats 4000000 in
set_option maxRecDepth 100000 in
theorem c_Parts_endThose (l : Launch) (dC : Nat → ClassId) (dI : Nat → Nat → Nat) (sz : Nat) (cZ : ClassId) (cB : ClassId) (cI : ClassId) (cG : ClassId) (cJ : ClassId) (hP_ : Nat) (hT : Nat) (hL : Nat) (hF : Nat) (pn : Int32) (hG : Nat) (tn : Int32) (th : Nat → Int32) (t : Nat) (ht : tn = nI (t + 1)) (h4 : t < 40) : Met l yX1_endThoseBeforeTheLast wsX1_endThoseBeforeTheLast ({ frames := 2, cells := 0, slots := 0, locals := 100 }) (va_Pc [.ref hP_] (my_P (dC, dI) vwCl [(cZ, .boolean), (cB, .byte), (cI, .int), (cG, .array .byte), (cJ, .array .int)] sz [(hP_, .inr (3, [.ref hT, .ref hL, .ref hF, .int pn, .ref hG, .int tn])), (hG, .inl (cI, 40, .inl th))])) (my_Qv (dC, dI) vwCl [(cZ, .boolean), (cB, .byte), (cI, .int), (cG, .array .byte), (cJ, .array .int)] [(hP_, .inr (3, [.ref hT, .ref hL, .ref hF, .int pn, .ref hG, .int ((pt_end t th tn).2)])), (hG, .inl (cI, 40, .inl ((pt_end t th tn).1)))] (va_A [(hP_, .inr (3, [.ref hT, .ref hL, .ref hF, .int pn, .ref hG, .int tn])), (hG, .inl (cI, 40, .inl th))] sz)) 0 0 (va_A [(hP_, .inr (3, [.ref hT, .ref hL, .ref hF, .int pn, .ref hG, .int tn])), (hG, .inl (cI, 40, .inl th))] sz) := by
  refine my_met (cc := cX1_endThoseBeforeTheLast) (maxL := 2) (ret9 := none) (fun A => my_Qv (dC, dI) vwCl [(cZ, .boolean), (cB, .byte), (cI, .int), (cG, .array .byte), (cJ, .array .int)] [(hP_, .inr (3, [.ref hT, .ref hL, .ref hF, .int pn, .ref hG, .int ((pt_end t th tn).2)])), (hG, .inl (cI, 40, .inl ((pt_end t th tn).1)))] A) (by decide) rfl (Nat.le_of_ble_eq_true rfl) ?_
  intro p e s m below meth c A ls hx hb hr hlocks hml hown hin hts hl hK hP hD hS hA
  have hown : s.vm.findClass RX1 = some m.cls := hown
  have hl : lv_has ls 2 [(0, .ref hP_)] := hl
  obtain ⟨H, hH⟩ : ∃ H, H = s.heap := ⟨_, rfl⟩
  have hP : va_P (dC, dI) vwCl [(hP_, .inr (3, [.ref hT, .ref hL, .ref hF, .int pn, .ref hG, .int tn])), (hG, .inl (cI, 40, .inl th))] H := by rw [hH]; exact hP
  have hS : va_S A s.heap H [] := by rw [hH]; exact hS
  rw [← hH]
  refine lv_aload_n hx hb dX1_endThoseBeforeTheLast_0 rfl (lv_at hl 0 rfl) ?_
  refine va_get (D := (dC, dI)) (ci := 3) (v := .int tn) (C := RX1) (T := TX1) (N := 6) hx hb hts (by decide +kernel) hown hK hP 0 rfl rfl 5 (by decide) (hts (.fieldLink RX1 31 "StartSleep$Parts" "thingCount" "I") (by decide +kernel)) (fun _ h9 => h9) rfl dX1_endThoseBeforeTheLast_1 ?_
  refine lv_iconst (v := 2) hx hb dX1_endThoseBeforeTheLast_4 (by decide) ?_
  refine lv_isub hx hb dX1_endThoseBeforeTheLast_5 ?_
  refine lv_istore_n (lv' := [(1, .int (tn - 2)), (0, .ref hP_)]) hx hb dX1_endThoseBeforeTheLast_6 rfl hl (by decide) rfl (fun ls hl => ?_)
  have e9 : tn - 2 = nI t + (-1) := by rw [ht]; exact pt_e9 t
  rw [e9] at hl
  have loop : ∀ (k i : Nat) (g : Nat → Int32) (a : Int32), (k < 41) → (pt_end k g a = pt_end t th tn) → ∀ (H : Heap) (locs : List Loc) (ls : Array Slot), va_P (dC, dI) vwCl [(hP_, .inr (3, [.ref hT, .ref hL, .ref hF, .int pn, .ref hG, .int a])), (hG, .inl (cI, 40, .inl g))] H → va_D A [(hP_, .inr (3, [.ref hT, .ref hL, .ref hF, .int pn, .ref hG, .int a])), (hG, .inl (cI, 40, .inl g))] → va_S A s.heap H locs → lv_has ls 2 [(0, .ref hP_), (1, .int (nI k + (-1)))] → W p l e (headSpec wsX1_endThoseBeforeTheLast ({ frames := 2, cells := 0, slots := 0, locals := 100 })).room s m ([.ref hP_] : List Value).toArray below meth c H locs 0 0 (MQ below (my_Qv (dC, dI) vwCl [(cZ, .boolean), (cB, .byte), (cI, .int), (cG, .array .byte), (cJ, .array .int)] [(hP_, .inr (3, [.ref hT, .ref hL, .ref hF, .int pn, .ref hG, .int ((pt_end t th tn).2)])), (hG, .inl (cI, 40, .inl ((pt_end t th tn).1)))] A) ([.ref hP_] : List Value).toArray s 0 0 A) (F0 m 7 ls []) := by
    intro k
    induction k with
    | zero =>
      intro i g a hn hI H locs ls hP hD hS hl
      refine lv_iload_n hx hb dX1_endThoseBeforeTheLast_7 rfl (lv_at hl 1 rfl) ?_
      refine lv_if_lt (tgt := 27) hx hb dX1_endThoseBeforeTheLast_8 (by decide) (fun c_1 => ?_) (fun c_1 => absurd (by decide) c_1)
      have hP9 : va_P (dC, dI) vwCl [(hP_, .inr (3, [.ref hT, .ref hL, .ref hF, .int pn, .ref hG, .int a])), (hG, .inl (cI, 40, .inl g))] H := hP.sub [0, 1] rfl
      have hD9 : va_D A [(hP_, .inr (3, [.ref hT, .ref hL, .ref hF, .int pn, .ref hG, .int a])), (hG, .inl (cI, 40, .inl g))] := hD.sub [0, 1] (by decide) rfl
      have eF : pt_end t th tn = (g, a) := hI.symm
      exact my_vr hx hb hr hlocks hK (by first | (rw [eF]; exact hP9) | exact hP9) (by first | (rw [eF]; exact hD9) | exact hD9) hS dX1_endThoseBeforeTheLast_27
    | succ k ih =>
      intro i g a hn hI H locs ls hP hD hS hl
      rw [pk_m1] at hl
      refine lv_iload_n hx hb dX1_endThoseBeforeTheLast_7 rfl (lv_at hl 1 rfl) ?_
      refine lv_if_lt (tgt := 27) hx hb dX1_endThoseBeforeTheLast_8 (by decide) (fun c_2 => absurd c_2 (nI_pos (by omega))) (fun c_2 => ?_)
      refine lv_aload_n hx hb dX1_endThoseBeforeTheLast_11 rfl (lv_at hl 0 rfl) ?_
      refine lv_aload_n hx hb dX1_endThoseBeforeTheLast_12 rfl (lv_at hl 0 rfl) ?_
      refine lv_iload_n hx hb dX1_endThoseBeforeTheLast_13 rfl (lv_at hl 1 rfl) ?_
      refine my_ci (wr := []) hP hD hS hA [0, 1] [] (my_V (As := [.int (nI k)]) (rest := [.ref hP_]) ⟨hx, hb, hml, hown, hts⟩ (c_Parts_thing l dC dI H.size cZ cB cI cG cJ hP_ hT hL hF pn hG a g (nI k) ) (cwV 1 hts gX1_endThoseBeforeTheLast_X1_thing rfl rfl rfl (by decide +kernel) ⟨Nat.le_of_ble_eq_true rfl, Nat.le_of_ble_eq_true rfl⟩) hK hP hD [0, 1] rfl (by decide) rfl rfl rfl hl.1 rfl (Nat.le_of_ble_eq_true rfl) dX1_endThoseBeforeTheLast_14 ⟨Nat.zero_le _, Nat.zero_le _⟩) rfl rfl (by decide) (by decide) (fun H locs hP hD hS => ?_)
      have hP : va_P (dC, dI) vwCl [(hP_, .inr (3, [.ref hT, .ref hL, .ref hF, .int pn, .ref hG, .int a])), (hG, .inl (cI, 40, .inl g))] H := hP
      have hD : va_D A [(hP_, .inr (3, [.ref hT, .ref hL, .ref hF, .int pn, .ref hG, .int a])), (hG, .inl (cI, 40, .inl g))] := hD
      refine lv_ineg hx hb dX1_endThoseBeforeTheLast_17 ?_
      refine my_cv (wr := []) hP hD hS hA [0, 1] [] (my_V (As := [.int (-(pt_thing g a (nI k)))]) (rest := []) ⟨hx, hb, hml, hown, hts⟩ (c_Parts_note l dC dI H.size cZ cB cI cG cJ hP_ hT hL hF pn hG a g (-(pt_thing g a (nI k))) ) (cwV 1 hts gX1_endThoseBeforeTheLast_X1_note rfl rfl rfl (by decide +kernel) ⟨Nat.le_of_ble_eq_true rfl, Nat.le_of_ble_eq_true rfl⟩) hK hP hD [0, 1] rfl (by decide) rfl rfl rfl hl.1 rfl (Nat.le_of_ble_eq_true rfl) dX1_endThoseBeforeTheLast_18 ⟨Nat.zero_le _, Nat.zero_le _⟩) rfl rfl (by decide) (by decide) (fun H locs hP hD hS => ?_)
      have hP : va_P (dC, dI) vwCl [(hP_, .inr (3, [.ref hT, .ref hL, .ref hF, .int pn, .ref hG, .int ((pt_note g a (-(pt_thing g a (nI k)))).2)])), (hG, .inl (cI, 40, .inl ((pt_note g a (-(pt_thing g a (nI k)))).1)))] H := hP
      have hD : va_D A [(hP_, .inr (3, [.ref hT, .ref hL, .ref hF, .int pn, .ref hG, .int ((pt_note g a (-(pt_thing g a (nI k)))).2)])), (hG, .inl (cI, 40, .inl ((pt_note g a (-(pt_thing g a (nI k)))).1)))] := hD
      generalize et_3 : pt_note g a (-(pt_thing g a (nI k))) = t_3 at hP hD ⊢
      refine lv_iinc (v := ((nI k) + (-1))) (lv' := [(1, .int ((nI k) + (-1))), (0, .ref hP_)]) hx hb dX1_endThoseBeforeTheLast_21 hl (k := 1) rfl rfl (by decide) rfl (fun ls hl => ?_)
      refine lv_goto (tgt := 7) hx hb dX1_endThoseBeforeTheLast_24 (by decide) ?_
      exact ih (i + 1) t_3.1 t_3.2 (by omega) (by rw [← hI]; simp only [pt_end, et_3]) _ _ ls (hP.sub [0, 1] rfl) (hD.sub [0, 1] (by decide) rfl) hS (lv_sub hl [1, 0] rfl)
  exact loop t 0 th tn (by omega) rfl _ _ ls (hP.sub [0, 1] rfl) (hD.sub [0, 1] (by decide) rfl) hS (lv_sub hl [1, 0] rfl)
set_option maxHeartbeats 4000000 in
set_option maxRecDepth 100000 in
theorem c_Parts_beginAll (l : Launch) (dC : Nat → ClassId) (dI : Nat → Nat → Nat) (sz : Nat) (cZ : ClassId) (cB : ClassId) (cI : ClassId) (cG : ClassId) (cJ : ClassId) (hP_ : Nat) (hT : Nat) (hL : Nat) (hF : Nat) (pn : Int32) (hG : Nat) (tn : Int32) (td : Nat → Int32) (pl : Nat → Int32) (fl : Nat → Int32) (th : Nat → Int32)  : Met l yX1_beginAll wsX1_beginAll ({ frames := 3, cells := 0, slots := 0, locals := 140 }) (va_Pc [.ref hP_] (my_P (dC, dI) vwCl [(cZ, .boolean), (cB, .byte), (cI, .int), (cG, .array .byte), (cJ, .array .int)] sz [(hP_, .inr (3, [.ref hT, .ref hL, .ref hF, .int pn, .ref hG, .int tn])), (hT, .inl (cZ, 21, .inl td)), (hL, .inl (cI, 21, .inl pl)), (hF, .inl (cZ, 21, .inl fl)), (hG, .inl (cI, 40, .inl th))])) (my_Qi ((pt_beg td pl fl 20 0 (pt_pb td pl (-1) 20 1 (-1)) th 0).1) (dC, dI) vwCl [(cZ, .boolean), (cB, .byte), (cI, .int), (cG, .array .byte), (cJ, .array .int)] [(hP_, .inr (3, [.ref hT, .ref hL, .ref hF, .int pn, .ref hG, .int ((pt_beg td pl fl 20 0 (pt_pb td pl (-1) 20 1 (-1)) th 0).2.2)])), (hT, .inl (cZ, 21, .inl td)), (hL, .inl (cI, 21, .inl pl)), (hF, .inl (cZ, 21, .inl fl)), (hG, .inl (cI, 40, .inl ((pt_beg td pl fl 20 0 (pt_pb td pl (-1) 20 1 (-1)) th 0).2.1)))] (va_A [(hP_, .inr (3, [.ref hT, .ref hL, .ref hF, .int pn, .ref hG, .int tn])), (hT, .inl (cZ, 21, .inl td)), (hL, .inl (cI, 21, .inl pl)), (hF, .inl (cZ, 21, .inl fl)), (hG, .inl (cI, 40, .inl th))] sz)) 0 0 (va_A [(hP_, .inr (3, [.ref hT, .ref hL, .ref hF, .int pn, .ref hG, .int tn])), (hT, .inl (cZ, 21, .inl td)), (hL, .inl (cI, 21, .inl pl)), (hF, .inl (cZ, 21, .inl fl)), (hG, .inl (cI, 40, .inl th))] sz) := by
  refine my_met (cc := cX1_beginAll) (maxL := 4) (ret9 := (some .boolean)) (fun A => my_Qi ((pt_beg td pl fl 20 0 (pt_pb td pl (-1) 20 1 (-1)) th 0).1) (dC, dI) vwCl [(cZ, .boolean), (cB, .byte), (cI, .int), (cG, .array .byte), (cJ, .array .int)] [(hP_, .inr (3, [.ref hT, .ref hL, .ref hF, .int pn, .ref hG, .int ((pt_beg td pl fl 20 0 (pt_pb td pl (-1) 20 1 (-1)) th 0).2.2)])), (hT, .inl (cZ, 21, .inl td)), (hL, .inl (cI, 21, .inl pl)), (hF, .inl (cZ, 21, .inl fl)), (hG, .inl (cI, 40, .inl ((pt_beg td pl fl 20 0 (pt_pb td pl (-1) 20 1 (-1)) th 0).2.1)))] A) (by decide) rfl (Nat.le_of_ble_eq_true rfl) ?_
  intro p e s m below meth c A ls hx hb hr hlocks hml hown hin hts hl hK hP hD hS hA
  have hown : s.vm.findClass RX1 = some m.cls := hown
  have hl : lv_has ls 4 [(0, .ref hP_)] := hl
  obtain ⟨H, hH⟩ : ∃ H, H = s.heap := ⟨_, rfl⟩
  have hP : va_P (dC, dI) vwCl [(hP_, .inr (3, [.ref hT, .ref hL, .ref hF, .int pn, .ref hG, .int tn])), (hT, .inl (cZ, 21, .inl td)), (hL, .inl (cI, 21, .inl pl)), (hF, .inl (cZ, 21, .inl fl)), (hG, .inl (cI, 40, .inl th))] H := by rw [hH]; exact hP
  have hS : va_S A s.heap H [] := by rw [hH]; exact hS
  rw [← hH]
  refine lv_aload_n hx hb dX1_beginAll_0 rfl (lv_at hl 0 rfl) ?_
  refine lv_iconst (v := 0) hx hb dX1_beginAll_1 (by decide) ?_
  refine va_put (D := (dC, dI)) (ci := 3) (v := .int 0) (ty := .int) (C := RX1) (T := TX1) (N := 6) hx hb hts (by decide +kernel) tyX1 tyX1_ok nmX1 hown hK hP hD hS 0 rfl rfl 5 (by decide) (hts (.fieldLink RX1 31 "StartSleep$Parts" "thingCount" "I") (by decide +kernel)) (fun _ h9 => h9) rfl (by decide +kernel) rfl rfl (Nat.le_of_ble_eq_true rfl) dX1_beginAll_2 (fun H locs hP hD hS => ?_)
  have hP : va_P (dC, dI) vwCl [(hP_, .inr (3, [.ref hT, .ref hL, .ref hF, .int pn, .ref hG, .int 0])), (hT, .inl (cZ, 21, .inl td)), (hL, .inl (cI, 21, .inl pl)), (hF, .inl (cZ, 21, .inl fl)), (hG, .inl (cI, 40, .inl th))] H := hP
  have hD : va_D A [(hP_, .inr (3, [.ref hT, .ref hL, .ref hF, .int pn, .ref hG, .int 0])), (hT, .inl (cZ, 21, .inl td)), (hL, .inl (cI, 21, .inl pl)), (hF, .inl (cZ, 21, .inl fl)), (hG, .inl (cI, 40, .inl th))] := hD
  refine lv_aload_n hx hb dX1_beginAll_5 rfl (lv_at hl 0 rfl) ?_
  refine lv_iconst (v := (-1)) hx hb dX1_beginAll_6 (by decide) ?_
  refine my_ci (wr := [(hF, .inl (cZ, 21, .inl fl)), (hG, .inl (cI, 40, .inl th))]) hP hD hS hA [0, 1, 2] [3, 4] (my_V (As := [.int (-1)]) (rest := []) ⟨hx, hb, hml, hown, hts⟩ (c_Parts_placeBehind l dC dI H.size cZ cB cI cG cJ hP_ hT hL hF pn hG 0 td pl (-1) ) (cwV 1 hts gX1_beginAll_X1_placeBehind rfl rfl rfl (by decide +kernel) ⟨Nat.le_of_ble_eq_true rfl, Nat.le_of_ble_eq_true rfl⟩) hK hP hD [0, 1, 2] rfl (by decide) rfl rfl rfl hl.1 rfl (Nat.le_of_ble_eq_true rfl) dX1_beginAll_7 ⟨Nat.zero_le _, Nat.zero_le _⟩) rfl rfl (by decide) (by decide) (fun H locs hP hD hS => ?_)
  have hP : va_P (dC, dI) vwCl [(hF, .inl (cZ, 21, .inl fl)), (hG, .inl (cI, 40, .inl th)), (hP_, .inr (3, [.ref hT, .ref hL, .ref hF, .int pn, .ref hG, .int 0])), (hT, .inl (cZ, 21, .inl td)), (hL, .inl (cI, 21, .inl pl))] H := hP
  have hD : va_D A [(hF, .inl (cZ, 21, .inl fl)), (hG, .inl (cI, 40, .inl th)), (hP_, .inr (3, [.ref hT, .ref hL, .ref hF, .int pn, .ref hG, .int 0])), (hT, .inl (cZ, 21, .inl td)), (hL, .inl (cI, 21, .inl pl))] := hD
  refine lv_istore_n (lv' := [(1, .int (pt_pb td pl (-1) 20 1 (-1))), (0, .ref hP_)]) hx hb dX1_beginAll_10 rfl hl (by decide) rfl (fun ls hl => ?_)
  refine lv_iconst (v := 0) hx hb dX1_beginAll_11 (by decide) ?_
  refine lv_istore_n (lv' := [(2, .int 0), (1, .int (pt_pb td pl (-1) 20 1 (-1))), (0, .ref hP_)]) hx hb dX1_beginAll_12 rfl hl (by decide) rfl (fun ls hl => ?_)
  have loop : ∀ (k i : Nat) (place : Int32) (g : Nat → Int32) (a : Int32), (i + k = 20) → (a = nI i) → (pt_beg td pl fl k i place g a = pt_beg td pl fl 20 0 (pt_pb td pl (-1) 20 1 (-1)) th 0) → ∀ (H : Heap) (locs : List Loc) (ls : Array Slot), va_P (dC, dI) vwCl [(hP_, .inr (3, [.ref hT, .ref hL, .ref hF, .int pn, .ref hG, .int a])), (hT, .inl (cZ, 21, .inl td)), (hL, .inl (cI, 21, .inl pl)), (hF, .inl (cZ, 21, .inl fl)), (hG, .inl (cI, 40, .inl g))] H → va_D A [(hP_, .inr (3, [.ref hT, .ref hL, .ref hF, .int pn, .ref hG, .int a])), (hT, .inl (cZ, 21, .inl td)), (hL, .inl (cI, 21, .inl pl)), (hF, .inl (cZ, 21, .inl fl)), (hG, .inl (cI, 40, .inl g))] → va_S A s.heap H locs → lv_has ls 4 [(0, .ref hP_), (1, .int place), (2, .int (nI i))] → W p l e (headSpec wsX1_beginAll ({ frames := 3, cells := 0, slots := 0, locals := 140 })).room s m ([.ref hP_] : List Value).toArray below meth c H locs 0 0 (MQ below (my_Qi ((pt_beg td pl fl 20 0 (pt_pb td pl (-1) 20 1 (-1)) th 0).1) (dC, dI) vwCl [(cZ, .boolean), (cB, .byte), (cI, .int), (cG, .array .byte), (cJ, .array .int)] [(hP_, .inr (3, [.ref hT, .ref hL, .ref hF, .int pn, .ref hG, .int ((pt_beg td pl fl 20 0 (pt_pb td pl (-1) 20 1 (-1)) th 0).2.2)])), (hT, .inl (cZ, 21, .inl td)), (hL, .inl (cI, 21, .inl pl)), (hF, .inl (cZ, 21, .inl fl)), (hG, .inl (cI, 40, .inl ((pt_beg td pl fl 20 0 (pt_pb td pl (-1) 20 1 (-1)) th 0).2.1)))] A) ([.ref hP_] : List Value).toArray s 0 0 A) (F0 m 13 ls []) := by
    intro k
    induction k with
    | zero =>
      intro i place g a hn ht hI H locs ls hP hD hS hl
      refine lv_iload_n hx hb dX1_beginAll_13 rfl (lv_at hl 2 rfl) ?_
      refine lv_bipush (v := 20) hx hb dX1_beginAll_14 (by decide) ?_
      refine lv_icmp_ge (tgt := 68) hx hb dX1_beginAll_16 (by decide) (fun c_1 => ?_) (fun c_1 => absurd (by rw [show i = 20 by omega]; decide) c_1)
      refine lv_iconst (v := 1) hx hb dX1_beginAll_68 (by decide) ?_
      have hP9 : va_P (dC, dI) vwCl [(hP_, .inr (3, [.ref hT, .ref hL, .ref hF, .int pn, .ref hG, .int a])), (hT, .inl (cZ, 21, .inl td)), (hL, .inl (cI, 21, .inl pl)), (hF, .inl (cZ, 21, .inl fl)), (hG, .inl (cI, 40, .inl g))] H := hP.sub [0, 1, 2, 3, 4] rfl
      have hD9 : va_D A [(hP_, .inr (3, [.ref hT, .ref hL, .ref hF, .int pn, .ref hG, .int a])), (hT, .inl (cZ, 21, .inl td)), (hL, .inl (cI, 21, .inl pl)), (hF, .inl (cZ, 21, .inl fl)), (hG, .inl (cI, 40, .inl g))] := hD.sub [0, 1, 2, 3, 4] (by decide) rfl
      have eF : pt_beg td pl fl 20 0 (pt_pb td pl (-1) 20 1 (-1)) th 0 = (1, g, a) := hI.symm
      exact my_zr hx hb hr hlocks rfl hK (by first | (rw [eF]; exact hP9) | exact hP9) (by first | (rw [eF]; exact hD9) | exact hD9) hS (by rw [eF]) dX1_beginAll_69
    | succ k ih =>
      intro i place g a hn ht hI H locs ls hP hD hS hl
      refine lv_iload_n hx hb dX1_beginAll_13 rfl (lv_at hl 2 rfl) ?_
      refine lv_bipush (v := 20) hx hb dX1_beginAll_14 (by decide) ?_
      refine lv_icmp_ge (tgt := 68) hx hb dX1_beginAll_16 (by decide) (fun c_2 => absurd c_2 (nI_ge (b := 20) (by omega) (by decide))) (fun c_2 => ?_)
      refine lv_iload_n hx hb dX1_beginAll_19 rfl (lv_at hl 1 rfl) ?_
      refine lv_iconst (v := (-1)) hx hb dX1_beginAll_20 (by decide) ?_
      refine lv_icmp_eq (tgt := 68) hx hb dX1_beginAll_21 (by decide) (fun c_3 => ?_) (fun c_3 => ?_)
      · refine lv_iconst (v := 1) hx hb dX1_beginAll_68 (by decide) ?_
        have hP9 : va_P (dC, dI) vwCl [(hP_, .inr (3, [.ref hT, .ref hL, .ref hF, .int pn, .ref hG, .int a])), (hT, .inl (cZ, 21, .inl td)), (hL, .inl (cI, 21, .inl pl)), (hF, .inl (cZ, 21, .inl fl)), (hG, .inl (cI, 40, .inl g))] H := hP.sub [0, 1, 2, 3, 4] rfl
        have hD9 : va_D A [(hP_, .inr (3, [.ref hT, .ref hL, .ref hF, .int pn, .ref hG, .int a])), (hT, .inl (cZ, 21, .inl td)), (hL, .inl (cI, 21, .inl pl)), (hF, .inl (cZ, 21, .inl fl)), (hG, .inl (cI, 40, .inl g))] := hD.sub [0, 1, 2, 3, 4] (by decide) rfl
        have eF : pt_beg td pl fl 20 0 (pt_pb td pl (-1) 20 1 (-1)) th 0 = (1, g, a) := (by rw [← hI]; simp only [pt_beg, if_pos c_3])
        exact my_zr hx hb hr hlocks rfl hK (by first | (rw [eF]; exact hP9) | exact hP9) (by first | (rw [eF]; exact hD9) | exact hD9) hS (by rw [eF]) dX1_beginAll_69
      · refine lv_iload_n hx hb dX1_beginAll_24 rfl (lv_at hl 1 rfl) ?_
        refine lv_bipush (v := 21) hx hb dX1_beginAll_25 (by decide) ?_
        refine lv_irem hx hb dX1_beginAll_27 (by decide) ?_
        refine lv_istore_n (lv' := [(3, .int (place - place / 21 * 21)), (0, .ref hP_), (1, .int place), (2, .int (nI i))]) hx hb dX1_beginAll_28 rfl hl (by decide) rfl (fun ls hl => ?_)
        refine lv_aload_n hx hb dX1_beginAll_29 rfl (lv_at hl 1 rfl) ?_
        refine lv_iload_n hx hb dX1_beginAll_30 rfl (lv_at hl 0 rfl) ?_
        refine my_cv (wr := [(hT, .inl (cZ, 21, .inl td)), (hL, .inl (cI, 21, .inl pl)), (hF, .inl (cZ, 21, .inl fl))]) hP hD hS hA [0, 4] [1, 2, 3] (my_V (As := [.int (place - place / 21 * 21)]) (rest := []) ⟨hx, hb, hml, hown, hts⟩ (c_Parts_note l dC dI H.size cZ cB cI cG cJ hP_ hT hL hF pn hG a g (place - place / 21 * 21) ) (cwV 1 hts gX1_beginAll_X1_note rfl rfl rfl (by decide +kernel) ⟨Nat.le_of_ble_eq_true rfl, Nat.le_of_ble_eq_true rfl⟩) hK hP hD [0, 4] rfl (by decide) rfl rfl rfl hl.1 rfl (Nat.le_of_ble_eq_true rfl) dX1_beginAll_31 ⟨Nat.zero_le _, Nat.zero_le _⟩) rfl rfl (by decide) (by decide) (fun H locs hP hD hS => ?_)
        have hP : va_P (dC, dI) vwCl [(hT, .inl (cZ, 21, .inl td)), (hL, .inl (cI, 21, .inl pl)), (hF, .inl (cZ, 21, .inl fl)), (hP_, .inr (3, [.ref hT, .ref hL, .ref hF, .int pn, .ref hG, .int ((pt_note g a (place - place / 21 * 21)).2)])), (hG, .inl (cI, 40, .inl ((pt_note g a (place - place / 21 * 21)).1)))] H := hP
        have hD : va_D A [(hT, .inl (cZ, 21, .inl td)), (hL, .inl (cI, 21, .inl pl)), (hF, .inl (cZ, 21, .inl fl)), (hP_, .inr (3, [.ref hT, .ref hL, .ref hF, .int pn, .ref hG, .int ((pt_note g a (place - place / 21 * 21)).2)])), (hG, .inl (cI, 40, .inl ((pt_note g a (place - place / 21 * 21)).1)))] := hD
        generalize et_4 : pt_note g a (place - place / 21 * 21) = t_4 at hP hD ⊢
        refine lv_iload_n hx hb dX1_beginAll_34 rfl (lv_at hl 0 rfl) ?_
        refine my_ci (wr := [(hT, .inl (cZ, 21, .inl td)), (hL, .inl (cI, 21, .inl pl)), (hF, .inl (cZ, 21, .inl fl)), (hP_, .inr (3, [.ref hT, .ref hL, .ref hF, .int pn, .ref hG, .int t_4.2])), (hG, .inl (cI, 40, .inl t_4.1))]) hP hD hS hA [] [0, 1, 2, 3, 4] (my_S (As := [.int (place - place / 21 * 21)]) (rest := []) ⟨hx, hb, hml, hown, hts⟩ (c_Parts_has l dC dI H.size cZ cB cI cG cJ (place - place / 21 * 21) ) (va_cwS 1 hts gX1_beginAll_X1_has rfl rfl rfl (by decide +kernel) ⟨Nat.le_of_ble_eq_true rfl, Nat.le_of_ble_eq_true rfl⟩) hK hP hD [] rfl (by decide) rfl hl.1 rfl (Nat.le_of_ble_eq_true rfl) dX1_beginAll_35 ⟨Nat.zero_le _, Nat.zero_le _⟩) rfl rfl (by decide) (by decide) (fun H locs hP hD hS => ?_)
        have hP : va_P (dC, dI) vwCl [(hT, .inl (cZ, 21, .inl td)), (hL, .inl (cI, 21, .inl pl)), (hF, .inl (cZ, 21, .inl fl)), (hP_, .inr (3, [.ref hT, .ref hL, .ref hF, .int pn, .ref hG, .int t_4.2])), (hG, .inl (cI, 40, .inl t_4.1))] H := hP
        have hD : va_D A [(hT, .inl (cZ, 21, .inl td)), (hL, .inl (cI, 21, .inl pl)), (hF, .inl (cZ, 21, .inl fl)), (hP_, .inr (3, [.ref hT, .ref hL, .ref hF, .int pn, .ref hG, .int t_4.2])), (hG, .inl (cI, 40, .inl t_4.1))] := hD
        refine lv_if_eq (tgt := 56) hx hb dX1_beginAll_38 (by decide) (fun c_5 => ?_) (fun c_5 => ?_)
        · refine lv_aload_n hx hb dX1_beginAll_56 rfl (lv_at hl 1 rfl) ?_
          refine lv_iload_n hx hb dX1_beginAll_57 rfl (lv_at hl 2 rfl) ?_
          refine my_ci (wr := [(hF, .inl (cZ, 21, .inl fl)), (hG, .inl (cI, 40, .inl t_4.1))]) hP hD hS hA [3, 0, 1] [2, 4] (my_V (As := [.int place]) (rest := []) ⟨hx, hb, hml, hown, hts⟩ (c_Parts_placeBehind l dC dI H.size cZ cB cI cG cJ hP_ hT hL hF pn hG t_4.2 td pl place ) (cwV 1 hts gX1_beginAll_X1_placeBehind rfl rfl rfl (by decide +kernel) ⟨Nat.le_of_ble_eq_true rfl, Nat.le_of_ble_eq_true rfl⟩) hK hP hD [3, 0, 1] rfl (by decide) rfl rfl rfl hl.1 rfl (Nat.le_of_ble_eq_true rfl) dX1_beginAll_58 ⟨Nat.zero_le _, Nat.zero_le _⟩) rfl rfl (by decide) (by decide) (fun H locs hP hD hS => ?_)
          have hP : va_P (dC, dI) vwCl [(hF, .inl (cZ, 21, .inl fl)), (hG, .inl (cI, 40, .inl t_4.1)), (hP_, .inr (3, [.ref hT, .ref hL, .ref hF, .int pn, .ref hG, .int t_4.2])), (hT, .inl (cZ, 21, .inl td)), (hL, .inl (cI, 21, .inl pl))] H := hP
          have hD : va_D A [(hF, .inl (cZ, 21, .inl fl)), (hG, .inl (cI, 40, .inl t_4.1)), (hP_, .inr (3, [.ref hT, .ref hL, .ref hF, .int pn, .ref hG, .int t_4.2])), (hT, .inl (cZ, 21, .inl td)), (hL, .inl (cI, 21, .inl pl))] := hD
          refine lv_istore_n (lv' := [(1, .int (pt_pb td pl place 20 1 (-1))), (3, .int (place - place / 21 * 21)), (0, .ref hP_), (2, .int (nI i))]) hx hb dX1_beginAll_61 rfl hl (by decide) rfl (fun ls hl => ?_)
          refine lv_iinc (v := ((nI i) + 1)) (lv' := [(2, .int ((nI i) + 1)), (1, .int (pt_pb td pl place 20 1 (-1))), (3, .int (place - place / 21 * 21)), (0, .ref hP_)]) hx hb dX1_beginAll_62 hl (k := 3) rfl rfl (by decide) rfl (fun ls hl => ?_)
          refine lv_goto (tgt := 13) hx hb dX1_beginAll_65 (by decide) ?_
          rw [nI_1 i] at hl
          exact ih (i + 1) (pt_pb td pl place 20 1 (-1)) t_4.1 t_4.2 (by omega) (by rw [← et_4, ht, pt_note_nI (by omega)]) (by rw [← hI]; simp only [pt_beg, if_neg c_3, if_pos c_5, et_4]) _ _ ls (hP.sub [2, 3, 4, 0, 1] rfl) (hD.sub [2, 3, 4, 0, 1] (by decide) rfl) hS (lv_sub hl [3, 1, 0] rfl)
        · refine lv_aload_n hx hb dX1_beginAll_41 rfl (lv_at hl 1 rfl) ?_
          refine va_get (D := (dC, dI)) (ci := 3) (v := .ref hF) (C := RX1) (T := TX1) (N := 6) hx hb hts (by decide +kernel) hown hK hP 3 rfl rfl 2 (by decide) (hts (.fieldLink RX1 17 "StartSleep$Parts" "failing" "[Z") (by decide +kernel)) (fun _ h9 => h9) rfl dX1_beginAll_42 ?_
          refine lv_iload_n hx hb dX1_beginAll_45 rfl (lv_at hl 0 rfl) ?_
          refine va_zald hx hb hK hP 2 0 rfl rfl (pt_has_in c_5) dX1_beginAll_46 ?_
          refine lv_if_eq (tgt := 56) hx hb dX1_beginAll_47 (by decide) (fun c_6 => ?_) (fun c_6 => ?_)
          · refine lv_aload_n hx hb dX1_beginAll_56 rfl (lv_at hl 1 rfl) ?_
            refine lv_iload_n hx hb dX1_beginAll_57 rfl (lv_at hl 2 rfl) ?_
            refine my_ci (wr := [(hF, .inl (cZ, 21, .inl fl)), (hG, .inl (cI, 40, .inl t_4.1))]) hP hD hS hA [3, 0, 1] [2, 4] (my_V (As := [.int place]) (rest := []) ⟨hx, hb, hml, hown, hts⟩ (c_Parts_placeBehind l dC dI H.size cZ cB cI cG cJ hP_ hT hL hF pn hG t_4.2 td pl place ) (cwV 1 hts gX1_beginAll_X1_placeBehind rfl rfl rfl (by decide +kernel) ⟨Nat.le_of_ble_eq_true rfl, Nat.le_of_ble_eq_true rfl⟩) hK hP hD [3, 0, 1] rfl (by decide) rfl rfl rfl hl.1 rfl (Nat.le_of_ble_eq_true rfl) dX1_beginAll_58 ⟨Nat.zero_le _, Nat.zero_le _⟩) rfl rfl (by decide) (by decide) (fun H locs hP hD hS => ?_)
            have hP : va_P (dC, dI) vwCl [(hF, .inl (cZ, 21, .inl fl)), (hG, .inl (cI, 40, .inl t_4.1)), (hP_, .inr (3, [.ref hT, .ref hL, .ref hF, .int pn, .ref hG, .int t_4.2])), (hT, .inl (cZ, 21, .inl td)), (hL, .inl (cI, 21, .inl pl))] H := hP
            have hD : va_D A [(hF, .inl (cZ, 21, .inl fl)), (hG, .inl (cI, 40, .inl t_4.1)), (hP_, .inr (3, [.ref hT, .ref hL, .ref hF, .int pn, .ref hG, .int t_4.2])), (hT, .inl (cZ, 21, .inl td)), (hL, .inl (cI, 21, .inl pl))] := hD
            refine lv_istore_n (lv' := [(1, .int (pt_pb td pl place 20 1 (-1))), (3, .int (place - place / 21 * 21)), (0, .ref hP_), (2, .int (nI i))]) hx hb dX1_beginAll_61 rfl hl (by decide) rfl (fun ls hl => ?_)
            refine lv_iinc (v := ((nI i) + 1)) (lv' := [(2, .int ((nI i) + 1)), (1, .int (pt_pb td pl place 20 1 (-1))), (3, .int (place - place / 21 * 21)), (0, .ref hP_)]) hx hb dX1_beginAll_62 hl (k := 3) rfl rfl (by decide) rfl (fun ls hl => ?_)
            refine lv_goto (tgt := 13) hx hb dX1_beginAll_65 (by decide) ?_
            rw [nI_1 i] at hl
            exact ih (i + 1) (pt_pb td pl place 20 1 (-1)) t_4.1 t_4.2 (by omega) (by rw [← et_4, ht, pt_note_nI (by omega)]) (by rw [← hI]; simp only [pt_beg, if_neg c_3, if_neg c_5, if_pos c_6, et_4]) _ _ ls (hP.sub [2, 3, 4, 0, 1] rfl) (hD.sub [2, 3, 4, 0, 1] (by decide) rfl) hS (lv_sub hl [3, 1, 0] rfl)
          · refine lv_aload_n hx hb dX1_beginAll_50 rfl (lv_at hl 1 rfl) ?_
            refine my_cv (wr := [(hT, .inl (cZ, 21, .inl td)), (hL, .inl (cI, 21, .inl pl)), (hF, .inl (cZ, 21, .inl fl))]) hP hD hS hA [3, 4] [0, 1, 2] (my_V (As := []) (rest := []) ⟨hx, hb, hml, hown, hts⟩ (c_Parts_endThose l dC dI H.size cZ cB cI cG cJ hP_ hT hL hF pn hG t_4.2 t_4.1 i (by rw [← et_4, ht, pt_note_nI (by omega)]) (by omega)) (cwV 0 hts gX1_beginAll_X1_endThoseBeforeTheLast rfl rfl rfl (by decide +kernel) ⟨Nat.le_of_ble_eq_true rfl, Nat.le_of_ble_eq_true rfl⟩) hK hP hD [3, 4] rfl (by decide) rfl rfl rfl hl.1 rfl (Nat.le_of_ble_eq_true rfl) dX1_beginAll_51 ⟨Nat.zero_le _, Nat.zero_le _⟩) rfl rfl (by decide) (by decide) (fun H locs hP hD hS => ?_)
            have hP : va_P (dC, dI) vwCl [(hT, .inl (cZ, 21, .inl td)), (hL, .inl (cI, 21, .inl pl)), (hF, .inl (cZ, 21, .inl fl)), (hP_, .inr (3, [.ref hT, .ref hL, .ref hF, .int pn, .ref hG, .int ((pt_end i t_4.1 t_4.2).2)])), (hG, .inl (cI, 40, .inl ((pt_end i t_4.1 t_4.2).1)))] H := hP
            have hD : va_D A [(hT, .inl (cZ, 21, .inl td)), (hL, .inl (cI, 21, .inl pl)), (hF, .inl (cZ, 21, .inl fl)), (hP_, .inr (3, [.ref hT, .ref hL, .ref hF, .int pn, .ref hG, .int ((pt_end i t_4.1 t_4.2).2)])), (hG, .inl (cI, 40, .inl ((pt_end i t_4.1 t_4.2).1)))] := hD
            generalize et_7 : pt_end i t_4.1 t_4.2 = t_7 at hP hD ⊢
            refine lv_iconst (v := 0) hx hb dX1_beginAll_54 (by decide) ?_
            have hP9 : va_P (dC, dI) vwCl [(hP_, .inr (3, [.ref hT, .ref hL, .ref hF, .int pn, .ref hG, .int t_7.2])), (hT, .inl (cZ, 21, .inl td)), (hL, .inl (cI, 21, .inl pl)), (hF, .inl (cZ, 21, .inl fl)), (hG, .inl (cI, 40, .inl t_7.1))] H := hP.sub [3, 0, 1, 2, 4] rfl
            have hD9 : va_D A [(hP_, .inr (3, [.ref hT, .ref hL, .ref hF, .int pn, .ref hG, .int t_7.2])), (hT, .inl (cZ, 21, .inl td)), (hL, .inl (cI, 21, .inl pl)), (hF, .inl (cZ, 21, .inl fl)), (hG, .inl (cI, 40, .inl t_7.1))] := hD.sub [3, 0, 1, 2, 4] (by decide) rfl
            have eF : pt_beg td pl fl 20 0 (pt_pb td pl (-1) 20 1 (-1)) th 0 = (0, t_7.1, t_7.2) := (by rw [← hI]; simp only [pt_beg, if_neg c_3, if_neg c_5, if_neg c_6, et_4, et_7])
            exact my_zr hx hb hr hlocks rfl hK (by first | (rw [eF]; exact hP9) | exact hP9) (by first | (rw [eF]; exact hD9) | exact hD9) hS (by rw [eF]) dX1_beginAll_55
  exact loop 20 0 (pt_pb td pl (-1) 20 1 (-1)) th 0 rfl rfl rfl _ _ ls (hP.sub [2, 3, 4, 0, 1] rfl) (hD.sub [2, 3, 4, 0, 1] (by decide) rfl) hS (lv_sub hl [2, 1, 0] rfl)
