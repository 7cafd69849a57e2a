
/-! Users -/
def us_has (x : Int32) : Int32 := if x < 1 then 0 else if 16 < x then 0 else 1
def us_set (rq : Nat → Int32) (n u on : Int32) : Int32 × (Nat → Int32) × Int32 :=
  if us_has u = 0 then (0, rq, n) else if rq (u.toNatClampNeg) = on then (0, rq, n) else
  (1, upd rq (u.toNatClampNeg) (vp_nar .boolean on), n + (if on = 0 then (-1) else 1))
def us_clr : Nat → Nat → (Nat → Int32) → (Nat → Int32)
  | 0, _, f => f
  | k + 1, i, f => us_clr k (i + 1) (upd f i (vp_nar .boolean 0))
theorem us_has_in {x : Int32} (h : ¬ us_has x = 0) : vp_in x 17 := by
  unfold us_has at h
  by_cases h1 : x < 1
  · simp [h1] at h
  · by_cases h2 : 16 < x
    · simp [h1, h2] at h
    · rw [vp_in_iff]
      have a := Int32.not_lt.mp h1
      have b := Int32.not_lt.mp h2
      rw [Int32.le_iff_toInt_le] at a b
      have e1 : (1 : Int32).toInt = 1 := by decide
      have e2 : (16 : Int32).toInt = 16 := by decide
      rw [e1] at a
      rw [e2] at b
      omega

set_option maxHeartbeats 4000000 in
set_option maxRecDepth 100000 in
theorem c_Users_has (l : Launch) (dC : Nat → ClassId) (dI : Nat → Nat → Nat) (sz : Nat) (cZ : ClassId) (cB : ClassId) (cI : ClassId) (cG : ClassId) (cJ : ClassId) (x : Int32)  : Met l yX2_has wsX2_has ({ frames := 0, cells := 0, slots := 0, locals := 0 }) (va_Pc [.int x] (my_P (dC, dI) vwCl [(cZ, .boolean), (cB, .byte), (cI, .int), (cG, .array .byte), (cJ, .array .int)] sz [])) (my_Qi (us_has x) (dC, dI) vwCl [(cZ, .boolean), (cB, .byte), (cI, .int), (cG, .array .byte), (cJ, .array .int)] [] (va_A [] sz)) 0 0 (va_A [] sz) := by
  refine my_met (cc := cX2_has) (maxL := 1) (ret9 := (some .boolean)) (fun A => my_Qi (us_has x) (dC, dI) vwCl [(cZ, .boolean), (cB, .byte), (cI, .int), (cG, .array .byte), (cJ, .array .int)] [] A) (by decide) rfl (Nat.le_of_ble_eq_true rfl) ?_
  intro p e s m below meth c A ls hx hb hr hlocks hml hown hin hts hl hK hP hD hS hA
  have hown : s.vm.findClass RX2 = some m.cls := hown
  have hl : lv_has ls 1 [(0, .int x)] := hl
  obtain ⟨H, hH⟩ : ∃ H, H = s.heap := ⟨_, rfl⟩
  have hP : va_P (dC, dI) vwCl [] H := by rw [hH]; exact hP
  have hS : va_S A s.heap H [] := by rw [hH]; exact hS
  rw [← hH]
  refine lv_iload_n hx hb dX2_has_0 rfl (lv_at hl 0 rfl) ?_
  refine lv_iconst (v := 1) hx hb dX2_has_1 (by decide) ?_
  refine lv_icmp_lt (tgt := 15) hx hb dX2_has_2 (by decide) (fun c_1 => ?_) (fun c_1 => ?_)
  · refine lv_iconst (v := 0) hx hb dX2_has_15 (by decide) ?_
    have hP9 : va_P (dC, dI) vwCl [] H := hP.sub [] rfl
    have hD9 : va_D A [] := hD.sub [] (by decide) rfl
    have eF : us_has x = 0 := by simp only [us_has, if_pos c_1]
    exact my_zr hx hb hr hlocks rfl hK (by first | (rw [eF]; exact hP9) | exact hP9) (by first | (rw [eF]; exact hD9) | exact hD9) hS (by rw [eF]) dX2_has_16
  · refine lv_iload_n hx hb dX2_has_5 rfl (lv_at hl 0 rfl) ?_
    refine lv_bipush (v := 16) hx hb dX2_has_6 (by decide) ?_
    refine lv_icmp_gt (tgt := 15) hx hb dX2_has_8 (by decide) (fun c_2 => ?_) (fun c_2 => ?_)
    · refine lv_iconst (v := 0) hx hb dX2_has_15 (by decide) ?_
      have hP9 : va_P (dC, dI) vwCl [] H := hP.sub [] rfl
      have hD9 : va_D A [] := hD.sub [] (by decide) rfl
      have eF : us_has x = 0 := by simp only [us_has, if_neg c_1, if_pos c_2]
      exact my_zr hx hb hr hlocks rfl hK (by first | (rw [eF]; exact hP9) | exact hP9) (by first | (rw [eF]; exact hD9) | exact hD9) hS (by rw [eF]) dX2_has_16
    · refine lv_iconst (v := 1) hx hb dX2_has_11 (by decide) ?_
      refine lv_goto (tgt := 16) hx hb dX2_has_12 (by decide) ?_
      have hP9 : va_P (dC, dI) vwCl [] H := hP.sub [] rfl
      have hD9 : va_D A [] := hD.sub [] (by decide) rfl
      have eF : us_has x = 1 := by simp only [us_has, if_neg c_1, if_neg c_2]
      exact my_zr hx hb hr hlocks rfl hK (by first | (rw [eF]; exact hP9) | exact hP9) (by first | (rw [eF]; exact hD9) | exact hD9) hS (by rw [eF]) dX2_has_16
set_option maxHeartbeats 4000000 in
set_option maxRecDepth 100000 in
theorem c_Users_howMany (l : Launch) (dC : Nat → ClassId) (dI : Nat → Nat → Nat) (sz : Nat) (cZ : ClassId) (cB : ClassId) (cI : ClassId) (cG : ClassId) (cJ : ClassId) (hU : Nat) (hR : Nat) (n : Int32)  : Met l yX2_howMany wsX2_howMany ({ frames := 0, cells := 0, slots := 0, locals := 0 }) (va_Pc [.ref hU] (my_P (dC, dI) vwCl [(cZ, .boolean), (cB, .byte), (cI, .int), (cG, .array .byte), (cJ, .array .int)] sz [(hU, .inr (4, [.ref hR, .int n]))])) (my_Qi n (dC, dI) vwCl [(cZ, .boolean), (cB, .byte), (cI, .int), (cG, .array .byte), (cJ, .array .int)] [(hU, .inr (4, [.ref hR, .int n]))] (va_A [(hU, .inr (4, [.ref hR, .int n]))] sz)) 0 0 (va_A [(hU, .inr (4, [.ref hR, .int n]))] sz) := by
  refine my_met (cc := cX2_howMany) (maxL := 1) (ret9 := (some .int)) (fun A => my_Qi n (dC, dI) vwCl [(cZ, .boolean), (cB, .byte), (cI, .int), (cG, .array .byte), (cJ, .array .int)] [(hU, .inr (4, [.ref hR, .int n]))] A) (by decide) rfl (Nat.le_of_ble_eq_true rfl) ?_
  intro p e s m below meth c A ls hx hb hr hlocks hml hown hin hts hl hK hP hD hS hA
  have hown : s.vm.findClass RX2 = some m.cls := hown
  have hl : lv_has ls 1 [(0, .ref hU)] := hl
  obtain ⟨H, hH⟩ : ∃ H, H = s.heap := ⟨_, rfl⟩
  have hP : va_P (dC, dI) vwCl [(hU, .inr (4, [.ref hR, .int n]))] H := by rw [hH]; exact hP
  have hS : va_S A s.heap H [] := by rw [hH]; exact hS
  rw [← hH]
  refine lv_aload_n hx hb dX2_howMany_0 rfl (lv_at hl 0 rfl) ?_
  refine va_get (D := (dC, dI)) (ci := 4) (v := .int n) (C := RX2) (T := TX2) (N := 2) hx hb hts (by decide +kernel) hown hK hP 0 rfl rfl 1 (by decide) (hts (.fieldLink RX2 13 "StartSleep$Users" "requesting" "I") (by decide +kernel)) (fun _ h9 => h9) rfl dX2_howMany_1 ?_
  have hP9 : va_P (dC, dI) vwCl [(hU, .inr (4, [.ref hR, .int n]))] H := hP.sub [0] rfl
  have hD9 : va_D A [(hU, .inr (4, [.ref hR, .int n]))] := hD.sub [0] (by decide) rfl
  exact my_ir hx hb hr hlocks hK hP9 hD9 hS rfl dX2_howMany_4
set_option maxHeartbeats 4000000 in
set_option maxRecDepth 100000 in
theorem c_Users_set (l : Launch) (dC : Nat → ClassId) (dI : Nat → Nat → Nat) (sz : Nat) (cZ : ClassId) (cB : ClassId) (cI : ClassId) (cG : ClassId) (cJ : ClassId) (hU : Nat) (hR : Nat) (n : Int32) (rq : Nat → Int32) (u : Int32) (on : Int32)  : Met l yX2_set wsX2_set ({ frames := 1, cells := 0, slots := 0, locals := 40 }) (va_Pc [.ref hU, .int u, .int on] (my_P (dC, dI) vwCl [(cZ, .boolean), (cB, .byte), (cI, .int), (cG, .array .byte), (cJ, .array .int)] sz [(hU, .inr (4, [.ref hR, .int n])), (hR, .inl (cZ, 17, .inl rq))])) (my_Qi ((us_set rq n u on).1) (dC, dI) vwCl [(cZ, .boolean), (cB, .byte), (cI, .int), (cG, .array .byte), (cJ, .array .int)] [(hU, .inr (4, [.ref hR, .int ((us_set rq n u on).2.2)])), (hR, .inl (cZ, 17, .inl ((us_set rq n u on).2.1)))] (va_A [(hU, .inr (4, [.ref hR, .int n])), (hR, .inl (cZ, 17, .inl rq))] sz)) 0 0 (va_A [(hU, .inr (4, [.ref hR, .int n])), (hR, .inl (cZ, 17, .inl rq))] sz) := by
  refine my_met (cc := cX2_set) (maxL := 3) (ret9 := (some .boolean)) (fun A => my_Qi ((us_set rq n u on).1) (dC, dI) vwCl [(cZ, .boolean), (cB, .byte), (cI, .int), (cG, .array .byte), (cJ, .array .int)] [(hU, .inr (4, [.ref hR, .int ((us_set rq n u on).2.2)])), (hR, .inl (cZ, 17, .inl ((us_set rq n u on).2.1)))] A) (by decide) rfl (Nat.le_of_ble_eq_true rfl) ?_
  intro p e s m below meth c A ls hx hb hr hlocks hml hown hin hts hl hK hP hD hS hA
  have hown : s.vm.findClass RX2 = some m.cls := hown
  have hl : lv_has ls 3 [(0, .ref hU), (1, .int u), (2, .int on)] := hl
  obtain ⟨H, hH⟩ : ∃ H, H = s.heap := ⟨_, rfl⟩
  have hP : va_P (dC, dI) vwCl [(hU, .inr (4, [.ref hR, .int n])), (hR, .inl (cZ, 17, .inl rq))] H := by rw [hH]; exact hP
  have hS : va_S A s.heap H [] := by rw [hH]; exact hS
  rw [← hH]
  refine lv_iload_n hx hb dX2_set_0 rfl (lv_at hl 1 rfl) ?_
  refine my_ci (wr := [(hU, .inr (4, [.ref hR, .int n])), (hR, .inl (cZ, 17, .inl rq))]) hP hD hS hA [] [0, 1] (my_S (As := [.int u]) (rest := []) ⟨hx, hb, hml, hown, hts⟩ (c_Users_has l dC dI H.size cZ cB cI cG cJ u ) (va_cwS 1 hts gX2_set_X2_has rfl rfl rfl (by decide +kernel) ⟨Nat.le_of_ble_eq_true rfl, Nat.le_of_ble_eq_true rfl⟩) hK hP hD [] rfl (by decide) rfl hl.1 rfl (Nat.le_of_ble_eq_true rfl) dX2_set_1 ⟨Nat.zero_le _, Nat.zero_le _⟩) rfl rfl (by decide) (by decide) (fun H locs hP hD hS => ?_)
  have hP : va_P (dC, dI) vwCl [(hU, .inr (4, [.ref hR, .int n])), (hR, .inl (cZ, 17, .inl rq))] H := hP
  have hD : va_D A [(hU, .inr (4, [.ref hR, .int n])), (hR, .inl (cZ, 17, .inl rq))] := hD
  refine lv_if_eq (tgt := 17) hx hb dX2_set_4 (by decide) (fun c_1 => ?_) (fun c_1 => ?_)
  · refine lv_iconst (v := 0) hx hb dX2_set_17 (by decide) ?_
    have hP9 : va_P (dC, dI) vwCl [(hU, .inr (4, [.ref hR, .int n])), (hR, .inl (cZ, 17, .inl rq))] H := hP.sub [0, 1] rfl
    have hD9 : va_D A [(hU, .inr (4, [.ref hR, .int n])), (hR, .inl (cZ, 17, .inl rq))] := hD.sub [0, 1] (by decide) rfl
    have eF : us_set rq n u on = (0, rq, n) := by simp only [us_set, if_pos c_1]
    exact my_zr hx hb hr hlocks rfl hK (by first | (rw [eF]; exact hP9) | exact hP9) (by first | (rw [eF]; exact hD9) | exact hD9) hS (by rw [eF]) dX2_set_18
  · refine lv_aload_n hx hb dX2_set_7 rfl (lv_at hl 0 rfl) ?_
    refine va_get (D := (dC, dI)) (ci := 4) (v := .ref hR) (C := RX2) (T := TX2) (N := 2) hx hb hts (by decide +kernel) hown hK hP 0 rfl rfl 0 (by decide) (hts (.fieldLink RX2 9 "StartSleep$Users" "requests" "[Z") (by decide +kernel)) (fun _ h9 => h9) rfl dX2_set_8 ?_
    refine lv_iload_n hx hb dX2_set_11 rfl (lv_at hl 1 rfl) ?_
    refine va_zald hx hb hK hP 1 0 rfl rfl (us_has_in c_1) dX2_set_12 ?_
    refine lv_iload_n hx hb dX2_set_13 rfl (lv_at hl 2 rfl) ?_
    refine lv_icmp_ne (tgt := 19) hx hb dX2_set_14 (by decide) (fun c_2 => ?_) (fun c_2 => ?_)
    · refine lv_aload_n hx hb dX2_set_19 rfl (lv_at hl 0 rfl) ?_
      refine va_get (D := (dC, dI)) (ci := 4) (v := .ref hR) (C := RX2) (T := TX2) (N := 2) hx hb hts (by decide +kernel) hown hK hP 0 rfl rfl 0 (by decide) (hts (.fieldLink RX2 9 "StartSleep$Users" "requests" "[Z") (by decide +kernel)) (fun _ h9 => h9) rfl dX2_set_20 ?_
      refine lv_iload_n hx hb dX2_set_23 rfl (lv_at hl 1 rfl) ?_
      refine lv_iload_n hx hb dX2_set_24 rfl (lv_at hl 2 rfl) ?_
      refine va_zast hx hb hK hP hD hS 1 0 rfl rfl (us_has_in c_1) dX2_set_25 (fun H locs hP hD hS => ?_)
      have hP : va_P (dC, dI) vwCl [(hU, .inr (4, [.ref hR, .int n])), (hR, .inl (cZ, 17, .inl (upd rq (u.toNatClampNeg) (vp_nar .boolean on))))] H := hP
      have hD : va_D A [(hU, .inr (4, [.ref hR, .int n])), (hR, .inl (cZ, 17, .inl (upd rq (u.toNatClampNeg) (vp_nar .boolean on))))] := hD
      refine lv_aload_n hx hb dX2_set_26 rfl (lv_at hl 0 rfl) ?_
      refine lv_dup hx hb dX2_set_27 rfl ?_
      refine va_get (D := (dC, dI)) (ci := 4) (v := .int n) (C := RX2) (T := TX2) (N := 2) hx hb hts (by decide +kernel) hown hK hP 0 rfl rfl 1 (by decide) (hts (.fieldLink RX2 13 "StartSleep$Users" "requesting" "I") (by decide +kernel)) (fun _ h9 => h9) rfl dX2_set_28 ?_
      refine lv_iload_n hx hb dX2_set_31 rfl (lv_at hl 2 rfl) ?_
      refine lv_if_eq (tgt := 39) hx hb dX2_set_32 (by decide) (fun c_3 => ?_) (fun c_3 => ?_)
      · refine lv_iconst (v := (-1)) hx hb dX2_set_39 (by decide) ?_
        refine lv_iadd hx hb dX2_set_40 ?_
        refine va_put (D := (dC, dI)) (ci := 4) (v := .int (n + (-1))) (ty := .int) (C := RX2) (T := TX2) (N := 2) hx hb hts (by decide +kernel) tyX2 tyX2_ok nmX2 hown hK hP hD hS 0 rfl rfl 1 (by decide) (hts (.fieldLink RX2 13 "StartSleep$Users" "requesting" "I") (by decide +kernel)) (fun _ h9 => h9) rfl (by decide +kernel) rfl rfl (Nat.le_of_ble_eq_true rfl) dX2_set_41 (fun H locs hP hD hS => ?_)
        have hP : va_P (dC, dI) vwCl [(hU, .inr (4, [.ref hR, .int (n + (-1))])), (hR, .inl (cZ, 17, .inl (upd rq (u.toNatClampNeg) (vp_nar .boolean on))))] H := hP
        have hD : va_D A [(hU, .inr (4, [.ref hR, .int (n + (-1))])), (hR, .inl (cZ, 17, .inl (upd rq (u.toNatClampNeg) (vp_nar .boolean on))))] := hD
        refine lv_iconst (v := 1) hx hb dX2_set_44 (by decide) ?_
        have hP9 : va_P (dC, dI) vwCl [(hU, .inr (4, [.ref hR, .int (n + (-1))])), (hR, .inl (cZ, 17, .inl (upd rq (u.toNatClampNeg) (vp_nar .boolean on))))] H := hP.sub [0, 1] rfl
        have hD9 : va_D A [(hU, .inr (4, [.ref hR, .int (n + (-1))])), (hR, .inl (cZ, 17, .inl (upd rq (u.toNatClampNeg) (vp_nar .boolean on))))] := hD.sub [0, 1] (by decide) rfl
        have eF : us_set rq n u on = (1, (upd rq (u.toNatClampNeg) (vp_nar .boolean on)), (n + (-1))) := by simp only [us_set, if_neg c_1, if_neg c_2, if_pos c_3]
        exact my_zr hx hb hr hlocks rfl hK (by first | (rw [eF]; exact hP9) | exact hP9) (by first | (rw [eF]; exact hD9) | exact hD9) hS (by rw [eF]) dX2_set_45
      · refine lv_iconst (v := 1) hx hb dX2_set_35 (by decide) ?_
        refine lv_goto (tgt := 40) hx hb dX2_set_36 (by decide) ?_
        refine lv_iadd hx hb dX2_set_40 ?_
        refine va_put (D := (dC, dI)) (ci := 4) (v := .int (n + 1)) (ty := .int) (C := RX2) (T := TX2) (N := 2) hx hb hts (by decide +kernel) tyX2 tyX2_ok nmX2 hown hK hP hD hS 0 rfl rfl 1 (by decide) (hts (.fieldLink RX2 13 "StartSleep$Users" "requesting" "I") (by decide +kernel)) (fun _ h9 => h9) rfl (by decide +kernel) rfl rfl (Nat.le_of_ble_eq_true rfl) dX2_set_41 (fun H locs hP hD hS => ?_)
        have hP : va_P (dC, dI) vwCl [(hU, .inr (4, [.ref hR, .int (n + 1)])), (hR, .inl (cZ, 17, .inl (upd rq (u.toNatClampNeg) (vp_nar .boolean on))))] H := hP
        have hD : va_D A [(hU, .inr (4, [.ref hR, .int (n + 1)])), (hR, .inl (cZ, 17, .inl (upd rq (u.toNatClampNeg) (vp_nar .boolean on))))] := hD
        refine lv_iconst (v := 1) hx hb dX2_set_44 (by decide) ?_
        have hP9 : va_P (dC, dI) vwCl [(hU, .inr (4, [.ref hR, .int (n + 1)])), (hR, .inl (cZ, 17, .inl (upd rq (u.toNatClampNeg) (vp_nar .boolean on))))] H := hP.sub [0, 1] rfl
        have hD9 : va_D A [(hU, .inr (4, [.ref hR, .int (n + 1)])), (hR, .inl (cZ, 17, .inl (upd rq (u.toNatClampNeg) (vp_nar .boolean on))))] := hD.sub [0, 1] (by decide) rfl
        have eF : us_set rq n u on = (1, (upd rq (u.toNatClampNeg) (vp_nar .boolean on)), (n + 1)) := by simp only [us_set, if_neg c_1, if_neg c_2, if_neg c_3]
        exact my_zr hx hb hr hlocks rfl hK (by first | (rw [eF]; exact hP9) | exact hP9) (by first | (rw [eF]; exact hD9) | exact hD9) hS (by rw [eF]) dX2_set_45
    · refine lv_iconst (v := 0) hx hb dX2_set_17 (by decide) ?_
      have hP9 : va_P (dC, dI) vwCl [(hU, .inr (4, [.ref hR, .int n])), (hR, .inl (cZ, 17, .inl rq))] H := hP.sub [0, 1] rfl
      have hD9 : va_D A [(hU, .inr (4, [.ref hR, .int n])), (hR, .inl (cZ, 17, .inl rq))] := hD.sub [0, 1] (by decide) rfl
      have eF : us_set rq n u on = (0, rq, n) := by simp only [us_set, if_neg c_1, if_pos c_2]
      exact my_zr hx hb hr hlocks rfl hK (by first | (rw [eF]; exact hP9) | exact hP9) (by first | (rw [eF]; exact hD9) | exact hD9) hS (by rw [eF]) dX2_set_18
set_option maxHeartbeats 4000000 in
set_option maxRecDepth 100000 in
theorem c_Users_clear (l : Launch) (dC : Nat → ClassId) (dI : Nat → Nat → Nat) (sz : Nat) (cZ : ClassId) (cB : ClassId) (cI : ClassId) (cG : ClassId) (cJ : ClassId) (hU : Nat) (hR : Nat) (n : Int32) (rq : Nat → Int32)  : Met l yX2_clear wsX2_clear ({ frames := 0, cells := 0, slots := 0, locals := 0 }) (va_Pc [.ref hU] (my_P (dC, dI) vwCl [(cZ, .boolean), (cB, .byte), (cI, .int), (cG, .array .byte), (cJ, .array .int)] sz [(hU, .inr (4, [.ref hR, .int n])), (hR, .inl (cZ, 17, .inl rq))])) (my_Qv (dC, dI) vwCl [(cZ, .boolean), (cB, .byte), (cI, .int), (cG, .array .byte), (cJ, .array .int)] [(hU, .inr (4, [.ref hR, .int 0])), (hR, .inl (cZ, 17, .inl (us_clr 17 0 rq)))] (va_A [(hU, .inr (4, [.ref hR, .int n])), (hR, .inl (cZ, 17, .inl rq))] sz)) 0 0 (va_A [(hU, .inr (4, [.ref hR, .int n])), (hR, .inl (cZ, 17, .inl rq))] sz) := by
  refine my_met (cc := cX2_clear) (maxL := 2) (ret9 := none) (fun A => my_Qv (dC, dI) vwCl [(cZ, .boolean), (cB, .byte), (cI, .int), (cG, .array .byte), (cJ, .array .int)] [(hU, .inr (4, [.ref hR, .int 0])), (hR, .inl (cZ, 17, .inl (us_clr 17 0 rq)))] A) (by decide) rfl (Nat.le_of_ble_eq_true rfl) ?_
  intro p e s m below meth c A ls hx hb hr hlocks hml hown hin hts hl hK hP hD hS hA
  have hown : s.vm.findClass RX2 = some m.cls := hown
  have hl : lv_has ls 2 [(0, .ref hU)] := hl
  obtain ⟨H, hH⟩ : ∃ H, H = s.heap := ⟨_, rfl⟩
  have hP : va_P (dC, dI) vwCl [(hU, .inr (4, [.ref hR, .int n])), (hR, .inl (cZ, 17, .inl rq))] H := by rw [hH]; exact hP
  have hS : va_S A s.heap H [] := by rw [hH]; exact hS
  rw [← hH]
  refine lv_iconst (v := 0) hx hb dX2_clear_0 (by decide) ?_
  refine lv_istore_n (lv' := [(1, .int 0), (0, .ref hU)]) hx hb dX2_clear_1 rfl hl (by decide) rfl (fun ls hl => ?_)
  have loop : ∀ (k i : Nat) (f : Nat → Int32), (i + k = 17) → (us_clr k i f = us_clr 17 0 rq) → ∀ (H : Heap) (locs : List Loc) (ls : Array Slot), va_P (dC, dI) vwCl [(hU, .inr (4, [.ref hR, .int n])), (hR, .inl (cZ, 17, .inl f))] H → va_D A [(hU, .inr (4, [.ref hR, .int n])), (hR, .inl (cZ, 17, .inl f))] → va_S A s.heap H locs → lv_has ls 2 [(0, .ref hU), (1, .int (nI i))] → W p l e (headSpec wsX2_clear ({ frames := 0, cells := 0, slots := 0, locals := 0 })).room s m ([.ref hU] : List Value).toArray below meth c H locs 0 0 (MQ below (my_Qv (dC, dI) vwCl [(cZ, .boolean), (cB, .byte), (cI, .int), (cG, .array .byte), (cJ, .array .int)] [(hU, .inr (4, [.ref hR, .int 0])), (hR, .inl (cZ, 17, .inl (us_clr 17 0 rq)))] A) ([.ref hU] : List Value).toArray s 0 0 A) (F0 m 2 ls []) := by
    intro k
    induction k with
    | zero =>
      intro i f hn hI H locs ls hP hD hS hl
      refine lv_iload_n hx hb dX2_clear_2 rfl (lv_at hl 1 rfl) ?_
      refine lv_aload_n hx hb dX2_clear_3 rfl (lv_at hl 0 rfl) ?_
      refine va_get (D := (dC, dI)) (ci := 4) (v := .ref hR) (C := RX2) (T := TX2) (N := 2) hx hb hts (by decide +kernel) hown hK hP 0 rfl rfl 0 (by decide) (hts (.fieldLink RX2 9 "StartSleep$Users" "requests" "[Z") (by decide +kernel)) (fun _ h9 => h9) rfl dX2_clear_4 ?_
      refine va_alen (v := 17) hx hb hK hP 1 0 rfl rfl rfl dX2_clear_7 ?_
      refine lv_icmp_ge (tgt := 24) hx hb dX2_clear_8 (by decide) (fun c_1 => ?_) (fun c_1 => absurd c_1 (by rw [show i = 17 by omega]; decide))
      refine lv_aload_n hx hb dX2_clear_24 rfl (lv_at hl 0 rfl) ?_
      refine lv_iconst (v := 0) hx hb dX2_clear_25 (by decide) ?_
      refine va_put (D := (dC, dI)) (ci := 4) (v := .int 0) (ty := .int) (C := RX2) (T := TX2) (N := 2) hx hb hts (by decide +kernel) tyX2 tyX2_ok nmX2 hown hK hP hD hS 0 rfl rfl 1 (by decide) (hts (.fieldLink RX2 13 "StartSleep$Users" "requesting" "I") (by decide +kernel)) (fun _ h9 => h9) rfl (by decide +kernel) rfl rfl (Nat.le_of_ble_eq_true rfl) dX2_clear_26 (fun H locs hP hD hS => ?_)
      have hP : va_P (dC, dI) vwCl [(hU, .inr (4, [.ref hR, .int 0])), (hR, .inl (cZ, 17, .inl f))] H := hP
      have hD : va_D A [(hU, .inr (4, [.ref hR, .int 0])), (hR, .inl (cZ, 17, .inl f))] := hD
      have hP9 : va_P (dC, dI) vwCl [(hU, .inr (4, [.ref hR, .int 0])), (hR, .inl (cZ, 17, .inl f))] H := hP.sub [0, 1] rfl
      have hD9 : va_D A [(hU, .inr (4, [.ref hR, .int 0])), (hR, .inl (cZ, 17, .inl f))] := hD.sub [0, 1] (by decide) rfl
      have eF : us_clr 17 0 rq = f := hI.symm
      exact my_vr hx hb hr hlocks hK (by first | (rw [eF]; exact hP9) | exact hP9) (by first | (rw [eF]; exact hD9) | exact hD9) hS dX2_clear_29
    | succ k ih =>
      intro i f hn hI H locs ls hP hD hS hl
      refine lv_iload_n hx hb dX2_clear_2 rfl (lv_at hl 1 rfl) ?_
      refine lv_aload_n hx hb dX2_clear_3 rfl (lv_at hl 0 rfl) ?_
      refine va_get (D := (dC, dI)) (ci := 4) (v := .ref hR) (C := RX2) (T := TX2) (N := 2) hx hb hts (by decide +kernel) hown hK hP 0 rfl rfl 0 (by decide) (hts (.fieldLink RX2 9 "StartSleep$Users" "requests" "[Z") (by decide +kernel)) (fun _ h9 => h9) rfl dX2_clear_4 ?_
      refine va_alen (v := 17) hx hb hK hP 1 0 rfl rfl rfl dX2_clear_7 ?_
      refine lv_icmp_ge (tgt := 24) hx hb dX2_clear_8 (by decide) (fun c_2 => absurd c_2 (nI_ge (b := 17) (by omega) (by decide))) (fun c_2 => ?_)
      refine lv_aload_n hx hb dX2_clear_11 rfl (lv_at hl 0 rfl) ?_
      refine va_get (D := (dC, dI)) (ci := 4) (v := .ref hR) (C := RX2) (T := TX2) (N := 2) hx hb hts (by decide +kernel) hown hK hP 0 rfl rfl 0 (by decide) (hts (.fieldLink RX2 9 "StartSleep$Users" "requests" "[Z") (by decide +kernel)) (fun _ h9 => h9) rfl dX2_clear_12 ?_
      refine lv_iload_n hx hb dX2_clear_15 rfl (lv_at hl 1 rfl) ?_
      refine lv_iconst (v := 0) hx hb dX2_clear_16 (by decide) ?_
      refine va_zast hx hb hK hP hD hS 1 0 rfl rfl (vp_in_nI (by omega) (by decide)) dX2_clear_17 (fun H locs hP hD hS => ?_)
      rw [nI_clamp (by omega)] at hP hD
      have hP : va_P (dC, dI) vwCl [(hU, .inr (4, [.ref hR, .int n])), (hR, .inl (cZ, 17, .inl (upd f i (vp_nar .boolean 0))))] H := hP
      have hD : va_D A [(hU, .inr (4, [.ref hR, .int n])), (hR, .inl (cZ, 17, .inl (upd f i (vp_nar .boolean 0))))] := hD
      refine lv_iinc (v := ((nI i) + 1)) (lv' := [(1, .int ((nI i) + 1)), (0, .ref hU)]) hx hb dX2_clear_18 hl (k := 1) rfl rfl (by decide) rfl (fun ls hl => ?_)
      refine lv_goto (tgt := 2) hx hb dX2_clear_21 (by decide) ?_
      rw [nI_1 i] at hl
      exact ih (i + 1) (upd f i (vp_nar .boolean 0)) (by omega) (by simpa only [us_clr] using hI) _ _ ls (hP.sub [0, 1] rfl) (hD.sub [0, 1] (by decide) rfl) hS (lv_sub hl [1, 0] rfl)
  exact loop 17 0 rq rfl rfl _ _ ls (hP.sub [0, 1] rfl) (hD.sub [0, 1] (by decide) rfl) hS (lv_sub hl [1, 0] rfl)
