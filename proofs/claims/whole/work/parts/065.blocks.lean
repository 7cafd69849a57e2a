set_option maxHeartbeats 4000000 in
set_option maxRecDepth 100000 in
theorem c_Blocks_has (l : Launch) (dC : Nat → ClassId) (dI : Nat → Nat → Nat) (sz : Nat) (cZ : ClassId) (cB : ClassId) (cI : ClassId) (cG : ClassId) (cJ : ClassId) (x : Int32)  : Met l yX0_has wsX0_has ({ frames := 0, cells := 0, slots := 0, locals := 0 }) (va_Pc [.int x] (my_P (dC, dI) vwCl [(cZ, .boolean), (cB, .byte), (cI, .int), (cG, .array .byte), (cJ, .array .int)] sz [])) (my_Qi (bl_has x) (dC, dI) vwCl [(cZ, .boolean), (cB, .byte), (cI, .int), (cG, .array .byte), (cJ, .array .int)] [] (va_A [] sz)) 0 0 (va_A [] sz) := by
  refine my_met (cc := cX0_has) (maxL := 1) (ret9 := (some .boolean)) (fun A => my_Qi (bl_has x) (dC, dI) vwCl [(cZ, .boolean), (cB, .byte), (cI, .int), (cG, .array .byte), (cJ, .array .int)] [] A) (by decide) rfl (Nat.le_of_ble_eq_true rfl) ?_
  intro p e s m below meth c A ls hx hb hr hlocks hml hown hin hts hl hK hP hD hS hA
  have hown : s.vm.findClass RX0 = some m.cls := hown
  have hl : lv_has ls 1 [(0, .int x)] := hl
  obtain ⟨H, hH⟩ : ∃ H, H = s.heap := ⟨_, rfl⟩
  have hP : va_P (dC, dI) vwCl [] H := by rw [hH]; exact hP
  have hS : va_S A s.heap H [] := by rw [hH]; exact hS
  rw [← hH]
  refine lv_iload_n hx hb dX0_has_0 rfl (lv_at hl 0 rfl) ?_
  refine lv_if_lt (tgt := 14) hx hb dX0_has_1 (by decide) (fun c_1 => ?_) (fun c_1 => ?_)
  · refine lv_iconst (v := 0) hx hb dX0_has_14 (by decide) ?_
    have hP9 : va_P (dC, dI) vwCl [] H := hP.sub [] rfl
    have hD9 : va_D A [] := hD.sub [] (by decide) rfl
    have eF : bl_has x = 0 := by simp only [bl_has, if_pos c_1]
    exact my_zr hx hb hr hlocks rfl hK (by first | (rw [eF]; exact hP9) | exact hP9) (by first | (rw [eF]; exact hD9) | exact hD9) hS (by rw [eF]) dX0_has_15
  · refine lv_iload_n hx hb dX0_has_4 rfl (lv_at hl 0 rfl) ?_
    refine lv_bipush (v := 8) hx hb dX0_has_5 (by decide) ?_
    refine lv_icmp_ge (tgt := 14) hx hb dX0_has_7 (by decide) (fun c_2 => ?_) (fun c_2 => ?_)
    · refine lv_iconst (v := 0) hx hb dX0_has_14 (by decide) ?_
      have hP9 : va_P (dC, dI) vwCl [] H := hP.sub [] rfl
      have hD9 : va_D A [] := hD.sub [] (by decide) rfl
      have eF : bl_has x = 0 := by simp only [bl_has, if_neg c_1, if_pos c_2]
      exact my_zr hx hb hr hlocks rfl hK (by first | (rw [eF]; exact hP9) | exact hP9) (by first | (rw [eF]; exact hD9) | exact hD9) hS (by rw [eF]) dX0_has_15
    · refine lv_iconst (v := 1) hx hb dX0_has_10 (by decide) ?_
      refine lv_goto (tgt := 15) hx hb dX0_has_11 (by decide) ?_
      have hP9 : va_P (dC, dI) vwCl [] H := hP.sub [] rfl
      have hD9 : va_D A [] := hD.sub [] (by decide) rfl
      have eF : bl_has x = 1 := by simp only [bl_has, if_neg c_1, if_neg c_2]
      exact my_zr hx hb hr hlocks rfl hK (by first | (rw [eF]; exact hP9) | exact hP9) (by first | (rw [eF]; exact hD9) | exact hD9) hS (by rw [eF]) dX0_has_15
set_option maxHeartbeats 4000000 in
set_option maxRecDepth 100000 in
theorem c_Blocks_hasOctet (l : Launch) (dC : Nat → ClassId) (dI : Nat → Nat → Nat) (sz : Nat) (cZ : ClassId) (cB : ClassId) (cI : ClassId) (cG : ClassId) (cJ : ClassId) (x : Int32)  : Met l yX0_hasOctet wsX0_hasOctet ({ frames := 0, cells := 0, slots := 0, locals := 0 }) (va_Pc [.int x] (my_P (dC, dI) vwCl [(cZ, .boolean), (cB, .byte), (cI, .int), (cG, .array .byte), (cJ, .array .int)] sz [])) (my_Qi (bl_oct x) (dC, dI) vwCl [(cZ, .boolean), (cB, .byte), (cI, .int), (cG, .array .byte), (cJ, .array .int)] [] (va_A [] sz)) 0 0 (va_A [] sz) := by
  refine my_met (cc := cX0_hasOctet) (maxL := 1) (ret9 := (some .boolean)) (fun A => my_Qi (bl_oct x) (dC, dI) vwCl [(cZ, .boolean), (cB, .byte), (cI, .int), (cG, .array .byte), (cJ, .array .int)] [] A) (by decide) rfl (Nat.le_of_ble_eq_true rfl) ?_
  intro p e s m below meth c A ls hx hb hr hlocks hml hown hin hts hl hK hP hD hS hA
  have hown : s.vm.findClass RX0 = some m.cls := hown
  have hl : lv_has ls 1 [(0, .int x)] := hl
  obtain ⟨H, hH⟩ : ∃ H, H = s.heap := ⟨_, rfl⟩
  have hP : va_P (dC, dI) vwCl [] H := by rw [hH]; exact hP
  have hS : va_S A s.heap H [] := by rw [hH]; exact hS
  rw [← hH]
  refine lv_iload_n hx hb dX0_hasOctet_0 rfl (lv_at hl 0 rfl) ?_
  refine lv_if_lt (tgt := 14) hx hb dX0_hasOctet_1 (by decide) (fun c_1 => ?_) (fun c_1 => ?_)
  · refine lv_iconst (v := 0) hx hb dX0_hasOctet_14 (by decide) ?_
    have hP9 : va_P (dC, dI) vwCl [] H := hP.sub [] rfl
    have hD9 : va_D A [] := hD.sub [] (by decide) rfl
    have eF : bl_oct x = 0 := by simp only [bl_oct, if_pos c_1]
    exact my_zr hx hb hr hlocks rfl hK (by first | (rw [eF]; exact hP9) | exact hP9) (by first | (rw [eF]; exact hD9) | exact hD9) hS (by rw [eF]) dX0_hasOctet_15
  · refine lv_iload_n hx hb dX0_hasOctet_4 rfl (lv_at hl 0 rfl) ?_
    refine lv_bipush (v := 16) hx hb dX0_hasOctet_5 (by decide) ?_
    refine lv_icmp_ge (tgt := 14) hx hb dX0_hasOctet_7 (by decide) (fun c_2 => ?_) (fun c_2 => ?_)
    · refine lv_iconst (v := 0) hx hb dX0_hasOctet_14 (by decide) ?_
      have hP9 : va_P (dC, dI) vwCl [] H := hP.sub [] rfl
      have hD9 : va_D A [] := hD.sub [] (by decide) rfl
      have eF : bl_oct x = 0 := by simp only [bl_oct, if_neg c_1, if_pos c_2]
      exact my_zr hx hb hr hlocks rfl hK (by first | (rw [eF]; exact hP9) | exact hP9) (by first | (rw [eF]; exact hD9) | exact hD9) hS (by rw [eF]) dX0_hasOctet_15
    · refine lv_iconst (v := 1) hx hb dX0_hasOctet_10 (by decide) ?_
      refine lv_goto (tgt := 15) hx hb dX0_hasOctet_11 (by decide) ?_
      have hP9 : va_P (dC, dI) vwCl [] H := hP.sub [] rfl
      have hD9 : va_D A [] := hD.sub [] (by decide) rfl
      have eF : bl_oct x = 1 := by simp only [bl_oct, if_neg c_1, if_neg c_2]
      exact my_zr hx hb hr hlocks rfl hK (by first | (rw [eF]; exact hP9) | exact hP9) (by first | (rw [eF]; exact hD9) | exact hD9) hS (by rw [eF]) dX0_hasOctet_15
set_option maxHeartbeats 4000000 in
set_option maxRecDepth 100000 in
theorem c_Blocks_isChanged (l : Launch) (dC : Nat → ClassId) (dI : Nat → Nat → Nat) (sz : Nat) (cZ : ClassId) (cB : ClassId) (cI : ClassId) (cG : ClassId) (cJ : ClassId) (hB : Nat) (hW : Nat) (hC : Nat) (hV : Nat) (hN : Nat) (ch : Nat → Int32) (n : Int32)  : Met l yX0_isChanged wsX0_isChanged ({ frames := 2, cells := 0, slots := 0, locals := 100 }) (va_Pc [.ref hB, .int n] (my_P (dC, dI) vwCl [(cZ, .boolean), (cB, .byte), (cI, .int), (cG, .array .byte), (cJ, .array .int)] sz [(hB, .inr (2, [.ref hW, .ref hC, .ref hV, .ref hN])), (hN, .inl (cZ, 8, .inl ch))])) (my_Qi (bl_is ch n) (dC, dI) vwCl [(cZ, .boolean), (cB, .byte), (cI, .int), (cG, .array .byte), (cJ, .array .int)] [(hB, .inr (2, [.ref hW, .ref hC, .ref hV, .ref hN])), (hN, .inl (cZ, 8, .inl ch))] (va_A [(hB, .inr (2, [.ref hW, .ref hC, .ref hV, .ref hN])), (hN, .inl (cZ, 8, .inl ch))] sz)) 0 0 (va_A [(hB, .inr (2, [.ref hW, .ref hC, .ref hV, .ref hN])), (hN, .inl (cZ, 8, .inl ch))] sz) := by
  refine my_met (cc := cX0_isChanged) (maxL := 2) (ret9 := (some .boolean)) (fun A => my_Qi (bl_is ch n) (dC, dI) vwCl [(cZ, .boolean), (cB, .byte), (cI, .int), (cG, .array .byte), (cJ, .array .int)] [(hB, .inr (2, [.ref hW, .ref hC, .ref hV, .ref hN])), (hN, .inl (cZ, 8, .inl ch))] A) (by decide) rfl (Nat.le_of_ble_eq_true rfl) ?_
  intro p e s m below meth c A ls hx hb hr hlocks hml hown hin hts hl hK hP hD hS hA
  have hown : s.vm.findClass RX0 = some m.cls := hown
  have hl : lv_has ls 2 [(0, .ref hB), (1, .int n)] := hl
  obtain ⟨H, hH⟩ : ∃ H, H = s.heap := ⟨_, rfl⟩
  have hP : va_P (dC, dI) vwCl [(hB, .inr (2, [.ref hW, .ref hC, .ref hV, .ref hN])), (hN, .inl (cZ, 8, .inl ch))] H := by rw [hH]; exact hP
  have hS : va_S A s.heap H [] := by rw [hH]; exact hS
  rw [← hH]
  refine lv_iload_n hx hb dX0_isChanged_0 rfl (lv_at hl 1 rfl) ?_
  refine my_ci (wr := [(hB, .inr (2, [.ref hW, .ref hC, .ref hV, .ref hN])), (hN, .inl (cZ, 8, .inl ch))]) hP hD hS hA [] [0, 1] (my_S (As := [.int n]) (rest := []) ⟨hx, hb, hml, hown, hts⟩ (c_Blocks_has l dC dI H.size cZ cB cI cG cJ n ) (va_cwS 1 hts gX0_isChanged_X0_has rfl rfl rfl (by decide +kernel) ⟨Nat.le_of_ble_eq_true rfl, Nat.le_of_ble_eq_true rfl⟩) hK hP hD [] rfl (by decide) rfl hl.1 rfl (Nat.le_of_ble_eq_true rfl) dX0_isChanged_1 ⟨Nat.zero_le _, Nat.zero_le _⟩) rfl rfl (by decide) (by decide) (fun H locs hP hD hS => ?_)
  have hP : va_P (dC, dI) vwCl [(hB, .inr (2, [.ref hW, .ref hC, .ref hV, .ref hN])), (hN, .inl (cZ, 8, .inl ch))] H := hP
  have hD : va_D A [(hB, .inr (2, [.ref hW, .ref hC, .ref hV, .ref hN])), (hN, .inl (cZ, 8, .inl ch))] := hD
  refine lv_if_eq (tgt := 20) hx hb dX0_isChanged_4 (by decide) (fun c_1 => ?_) (fun c_1 => ?_)
  · refine lv_iconst (v := 0) hx hb dX0_isChanged_20 (by decide) ?_
    have hP9 : va_P (dC, dI) vwCl [(hB, .inr (2, [.ref hW, .ref hC, .ref hV, .ref hN])), (hN, .inl (cZ, 8, .inl ch))] H := hP.sub [0, 1] rfl
    have hD9 : va_D A [(hB, .inr (2, [.ref hW, .ref hC, .ref hV, .ref hN])), (hN, .inl (cZ, 8, .inl ch))] := hD.sub [0, 1] (by decide) rfl
    have eF : bl_is ch n = 0 := by simp only [bl_is, if_pos c_1]
    exact my_zr hx hb hr hlocks rfl hK (by first | (rw [eF]; exact hP9) | exact hP9) (by first | (rw [eF]; exact hD9) | exact hD9) hS (by rw [eF]) dX0_isChanged_21
  · refine lv_aload_n hx hb dX0_isChanged_7 rfl (lv_at hl 0 rfl) ?_
    refine va_get (D := (dC, dI)) (ci := 2) (v := .ref hN) (C := RX0) (T := TX0) (N := 4) hx hb hts (by decide +kernel) hown hK hP 0 rfl rfl 3 (by decide) (hts (.fieldLink RX0 25 "StartSleep$Blocks" "changed" "[Z") (by decide +kernel)) (fun _ h9 => h9) rfl dX0_isChanged_8 ?_
    refine lv_iload_n hx hb dX0_isChanged_11 rfl (lv_at hl 1 rfl) ?_
    refine va_zald hx hb hK hP 1 0 rfl rfl (bl_has_in c_1) dX0_isChanged_12 ?_
    refine lv_if_eq (tgt := 20) hx hb dX0_isChanged_13 (by decide) (fun c_2 => ?_) (fun c_2 => ?_)
    · refine lv_iconst (v := 0) hx hb dX0_isChanged_20 (by decide) ?_
      have hP9 : va_P (dC, dI) vwCl [(hB, .inr (2, [.ref hW, .ref hC, .ref hV, .ref hN])), (hN, .inl (cZ, 8, .inl ch))] H := hP.sub [0, 1] rfl
      have hD9 : va_D A [(hB, .inr (2, [.ref hW, .ref hC, .ref hV, .ref hN])), (hN, .inl (cZ, 8, .inl ch))] := hD.sub [0, 1] (by decide) rfl
      have eF : bl_is ch n = 0 := by simp only [bl_is, if_neg c_1, if_pos c_2]
      exact my_zr hx hb hr hlocks rfl hK (by first | (rw [eF]; exact hP9) | exact hP9) (by first | (rw [eF]; exact hD9) | exact hD9) hS (by rw [eF]) dX0_isChanged_21
    · refine lv_iconst (v := 1) hx hb dX0_isChanged_16 (by decide) ?_
      refine lv_goto (tgt := 21) hx hb dX0_isChanged_17 (by decide) ?_
      have hP9 : va_P (dC, dI) vwCl [(hB, .inr (2, [.ref hW, .ref hC, .ref hV, .ref hN])), (hN, .inl (cZ, 8, .inl ch))] H := hP.sub [0, 1] rfl
      have hD9 : va_D A [(hB, .inr (2, [.ref hW, .ref hC, .ref hV, .ref hN])), (hN, .inl (cZ, 8, .inl ch))] := hD.sub [0, 1] (by decide) rfl
      have eF : bl_is ch n = 1 := by simp only [bl_is, if_neg c_1, if_neg c_2]
      exact my_zr hx hb hr hlocks rfl hK (by first | (rw [eF]; exact hP9) | exact hP9) (by first | (rw [eF]; exact hD9) | exact hD9) hS (by rw [eF]) dX0_isChanged_21
set_option maxHeartbeats 4000000 in
set_option maxRecDepth 100000 in
theorem c_Blocks_howManyChanged (l : Launch) (dC : Nat → ClassId) (dI : Nat → Nat → Nat) (sz : Nat) (cZ : ClassId) (cB : ClassId) (cI : ClassId) (cG : ClassId) (cJ : ClassId) (hB : Nat) (hW : Nat) (hC : Nat) (hV : Nat) (hN : Nat) (ch : Nat → Int32)  : Met l yX0_howManyChanged wsX0_howManyChanged ({ frames := 0, cells := 0, slots := 0, locals := 0 }) (va_Pc [.ref hB] (my_P (dC, dI) vwCl [(cZ, .boolean), (cB, .byte), (cI, .int), (cG, .array .byte), (cJ, .array .int)] sz [(hB, .inr (2, [.ref hW, .ref hC, .ref hV, .ref hN])), (hN, .inl (cZ, 8, .inl ch))])) (my_Qi (bl_cnt ch 8 0 0) (dC, dI) vwCl [(cZ, .boolean), (cB, .byte), (cI, .int), (cG, .array .byte), (cJ, .array .int)] [(hB, .inr (2, [.ref hW, .ref hC, .ref hV, .ref hN])), (hN, .inl (cZ, 8, .inl ch))] (va_A [(hB, .inr (2, [.ref hW, .ref hC, .ref hV, .ref hN])), (hN, .inl (cZ, 8, .inl ch))] sz)) 0 0 (va_A [(hB, .inr (2, [.ref hW, .ref hC, .ref hV, .ref hN])), (hN, .inl (cZ, 8, .inl ch))] sz) := by
  refine my_met (cc := cX0_howManyChanged) (maxL := 3) (ret9 := (some .int)) (fun A => my_Qi (bl_cnt ch 8 0 0) (dC, dI) vwCl [(cZ, .boolean), (cB, .byte), (cI, .int), (cG, .array .byte), (cJ, .array .int)] [(hB, .inr (2, [.ref hW, .ref hC, .ref hV, .ref hN])), (hN, .inl (cZ, 8, .inl ch))] A) (by decide) rfl (Nat.le_of_ble_eq_true rfl) ?_
  intro p e s m below meth c A ls hx hb hr hlocks hml hown hin hts hl hK hP hD hS hA
  have hown : s.vm.findClass RX0 = some m.cls := hown
  have hl : lv_has ls 3 [(0, .ref hB)] := hl
  obtain ⟨H, hH⟩ : ∃ H, H = s.heap := ⟨_, rfl⟩
  have hP : va_P (dC, dI) vwCl [(hB, .inr (2, [.ref hW, .ref hC, .ref hV, .ref hN])), (hN, .inl (cZ, 8, .inl ch))] H := by rw [hH]; exact hP
  have hS : va_S A s.heap H [] := by rw [hH]; exact hS
  rw [← hH]
  refine lv_iconst (v := 0) hx hb dX0_howManyChanged_0 (by decide) ?_
  refine lv_istore_n (lv' := [(1, .int 0), (0, .ref hB)]) hx hb dX0_howManyChanged_1 rfl hl (by decide) rfl (fun ls hl => ?_)
  refine lv_iconst (v := 0) hx hb dX0_howManyChanged_2 (by decide) ?_
  refine lv_istore_n (lv' := [(2, .int 0), (1, .int 0), (0, .ref hB)]) hx hb dX0_howManyChanged_3 rfl hl (by decide) rfl (fun ls hl => ?_)
  have loop : ∀ (k i : Nat) (a : Int32), (i + k = 8) → (bl_cnt ch k i a = bl_cnt ch 8 0 0) → ∀ (H : Heap) (locs : List Loc) (ls : Array Slot), va_P (dC, dI) vwCl [(hB, .inr (2, [.ref hW, .ref hC, .ref hV, .ref hN])), (hN, .inl (cZ, 8, .inl ch))] H → va_D A [(hB, .inr (2, [.ref hW, .ref hC, .ref hV, .ref hN])), (hN, .inl (cZ, 8, .inl ch))] → va_S A s.heap H locs → lv_has ls 3 [(0, .ref hB), (1, .int a), (2, .int (nI i))] → W p l e (headSpec wsX0_howManyChanged ({ frames := 0, cells := 0, slots := 0, locals := 0 })).room s m ([.ref hB] : List Value).toArray below meth c H locs 0 0 (MQ below (my_Qi (bl_cnt ch 8 0 0) (dC, dI) vwCl [(cZ, .boolean), (cB, .byte), (cI, .int), (cG, .array .byte), (cJ, .array .int)] [(hB, .inr (2, [.ref hW, .ref hC, .ref hV, .ref hN])), (hN, .inl (cZ, 8, .inl ch))] A) ([.ref hB] : List Value).toArray s 0 0 A) (F0 m 4 ls []) := by
    intro k
    induction k with
    | zero =>
      intro i a hn hI H locs ls hP hD hS hl
      refine lv_iload_n hx hb dX0_howManyChanged_4 rfl (lv_at hl 2 rfl) ?_
      refine lv_bipush (v := 8) hx hb dX0_howManyChanged_5 (by decide) ?_
      refine lv_icmp_ge (tgt := 28) hx hb dX0_howManyChanged_7 (by decide) (fun c_1 => ?_) (fun c_1 => absurd (by rw [show i = 8 by omega]; decide) c_1)
      refine lv_iload_n hx hb dX0_howManyChanged_28 rfl (lv_at hl 1 rfl) ?_
      have hP9 : va_P (dC, dI) vwCl [(hB, .inr (2, [.ref hW, .ref hC, .ref hV, .ref hN])), (hN, .inl (cZ, 8, .inl ch))] H := hP.sub [0, 1] rfl
      have hD9 : va_D A [(hB, .inr (2, [.ref hW, .ref hC, .ref hV, .ref hN])), (hN, .inl (cZ, 8, .inl ch))] := hD.sub [0, 1] (by decide) rfl
      have eF : bl_cnt ch 8 0 0 = a := hI.symm
      exact my_ir hx hb hr hlocks hK (by first | (rw [eF]; exact hP9) | exact hP9) (by first | (rw [eF]; exact hD9) | exact hD9) hS (by rw [eF]) dX0_howManyChanged_29
    | succ k ih =>
      intro i a hn hI H locs ls hP hD hS hl
      refine lv_iload_n hx hb dX0_howManyChanged_4 rfl (lv_at hl 2 rfl) ?_
      refine lv_bipush (v := 8) hx hb dX0_howManyChanged_5 (by decide) ?_
      refine lv_icmp_ge (tgt := 28) hx hb dX0_howManyChanged_7 (by decide) (fun c_2 => absurd c_2 (nI_ge (b := 8) (by omega) (by decide))) (fun c_2 => ?_)
      refine lv_aload_n hx hb dX0_howManyChanged_10 rfl (lv_at hl 0 rfl) ?_
      refine va_get (D := (dC, dI)) (ci := 2) (v := .ref hN) (C := RX0) (T := TX0) (N := 4) hx hb hts (by decide +kernel) hown hK hP 0 rfl rfl 3 (by decide) (hts (.fieldLink RX0 25 "StartSleep$Blocks" "changed" "[Z") (by decide +kernel)) (fun _ h9 => h9) rfl dX0_howManyChanged_11 ?_
      refine lv_iload_n hx hb dX0_howManyChanged_14 rfl (lv_at hl 2 rfl) ?_
      refine va_zald hx hb hK hP 1 0 rfl rfl (vp_in_nI (by omega) (by decide)) dX0_howManyChanged_15 ?_
      rw [nI_clamp (by omega)]
      refine lv_if_eq (tgt := 22) hx hb dX0_howManyChanged_16 (by decide) (fun c_3 => ?_) (fun c_3 => ?_)
      · refine lv_iinc (v := ((nI i) + 1)) (lv' := [(2, .int ((nI i) + 1)), (0, .ref hB), (1, .int a)]) hx hb dX0_howManyChanged_22 hl (k := 2) rfl rfl (by decide) rfl (fun ls hl => ?_)
        refine lv_goto (tgt := 4) hx hb dX0_howManyChanged_25 (by decide) ?_
        rw [nI_1 i] at hl
        exact ih (i + 1) a (by omega) (by rw [← hI]; simp only [bl_cnt, if_pos c_3]) _ _ ls (hP.sub [0, 1] rfl) (hD.sub [0, 1] (by decide) rfl) hS (lv_sub hl [1, 2, 0] rfl)
      · refine lv_iinc (v := (a + 1)) (lv' := [(1, .int (a + 1)), (0, .ref hB), (2, .int (nI i))]) hx hb dX0_howManyChanged_19 hl (k := 1) rfl rfl (by decide) rfl (fun ls hl => ?_)
        refine lv_iinc (v := ((nI i) + 1)) (lv' := [(2, .int ((nI i) + 1)), (1, .int (a + 1)), (0, .ref hB)]) hx hb dX0_howManyChanged_22 hl (k := 2) rfl rfl (by decide) rfl (fun ls hl => ?_)
        refine lv_goto (tgt := 4) hx hb dX0_howManyChanged_25 (by decide) ?_
        rw [nI_1 i] at hl
        exact ih (i + 1) (a + 1) (by omega) (by rw [← hI]; simp only [bl_cnt, if_neg c_3]) _ _ ls (hP.sub [0, 1] rfl) (hD.sub [0, 1] (by decide) rfl) hS (lv_sub hl [2, 1, 0] rfl)
  exact loop 8 0 0 rfl rfl _ _ ls (hP.sub [0, 1] rfl) (hD.sub [0, 1] (by decide) rfl) hS (lv_sub hl [2, 1, 0] rfl)
set_option maxHeartbeats 4000000 in
set_option maxRecDepth 100000 in
theorem c_Blocks_firstChanged (l : Launch) (dC : Nat → ClassId) (dI : Nat → Nat → Nat) (sz : Nat) (cZ : ClassId) (cB : ClassId) (cI : ClassId) (cG : ClassId) (cJ : ClassId) (hB : Nat) (hW : Nat) (hC : Nat) (hV : Nat) (hN : Nat) (ch : Nat → Int32)  : Met l yX0_firstChanged wsX0_firstChanged ({ frames := 0, cells := 0, slots := 0, locals := 0 }) (va_Pc [.ref hB] (my_P (dC, dI) vwCl [(cZ, .boolean), (cB, .byte), (cI, .int), (cG, .array .byte), (cJ, .array .int)] sz [(hB, .inr (2, [.ref hW, .ref hC, .ref hV, .ref hN])), (hN, .inl (cZ, 8, .inl ch))])) (my_Qi (bl_fst ch 8 0) (dC, dI) vwCl [(cZ, .boolean), (cB, .byte), (cI, .int), (cG, .array .byte), (cJ, .array .int)] [(hB, .inr (2, [.ref hW, .ref hC, .ref hV, .ref hN])), (hN, .inl (cZ, 8, .inl ch))] (va_A [(hB, .inr (2, [.ref hW, .ref hC, .ref hV, .ref hN])), (hN, .inl (cZ, 8, .inl ch))] sz)) 0 0 (va_A [(hB, .inr (2, [.ref hW, .ref hC, .ref hV, .ref hN])), (hN, .inl (cZ, 8, .inl ch))] sz) := by
  refine my_met (cc := cX0_firstChanged) (maxL := 2) (ret9 := (some .int)) (fun A => my_Qi (bl_fst ch 8 0) (dC, dI) vwCl [(cZ, .boolean), (cB, .byte), (cI, .int), (cG, .array .byte), (cJ, .array .int)] [(hB, .inr (2, [.ref hW, .ref hC, .ref hV, .ref hN])), (hN, .inl (cZ, 8, .inl ch))] A) (by decide) rfl (Nat.le_of_ble_eq_true rfl) ?_
  intro p e s m below meth c A ls hx hb hr hlocks hml hown hin hts hl hK hP hD hS hA
  have hown : s.vm.findClass RX0 = some m.cls := hown
  have hl : lv_has ls 2 [(0, .ref hB)] := hl
  obtain ⟨H, hH⟩ : ∃ H, H = s.heap := ⟨_, rfl⟩
  have hP : va_P (dC, dI) vwCl [(hB, .inr (2, [.ref hW, .ref hC, .ref hV, .ref hN])), (hN, .inl (cZ, 8, .inl ch))] H := by rw [hH]; exact hP
  have hS : va_S A s.heap H [] := by rw [hH]; exact hS
  rw [← hH]
  refine lv_iconst (v := 0) hx hb dX0_firstChanged_0 (by decide) ?_
  refine lv_istore_n (lv' := [(1, .int 0), (0, .ref hB)]) hx hb dX0_firstChanged_1 rfl hl (by decide) rfl (fun ls hl => ?_)
  have loop : ∀ (k i : Nat) , (i + k = 8) → (bl_fst ch k i = bl_fst ch 8 0) → ∀ (H : Heap) (locs : List Loc) (ls : Array Slot), va_P (dC, dI) vwCl [(hB, .inr (2, [.ref hW, .ref hC, .ref hV, .ref hN])), (hN, .inl (cZ, 8, .inl ch))] H → va_D A [(hB, .inr (2, [.ref hW, .ref hC, .ref hV, .ref hN])), (hN, .inl (cZ, 8, .inl ch))] → va_S A s.heap H locs → lv_has ls 2 [(0, .ref hB), (1, .int (nI i))] → W p l e (headSpec wsX0_firstChanged ({ frames := 0, cells := 0, slots := 0, locals := 0 })).room s m ([.ref hB] : List Value).toArray below meth c H locs 0 0 (MQ below (my_Qi (bl_fst ch 8 0) (dC, dI) vwCl [(cZ, .boolean), (cB, .byte), (cI, .int), (cG, .array .byte), (cJ, .array .int)] [(hB, .inr (2, [.ref hW, .ref hC, .ref hV, .ref hN])), (hN, .inl (cZ, 8, .inl ch))] A) ([.ref hB] : List Value).toArray s 0 0 A) (F0 m 2 ls []) := by
    intro k
    induction k with
    | zero =>
      intro i  hn hI H locs ls hP hD hS hl
      refine lv_iload_n hx hb dX0_firstChanged_2 rfl (lv_at hl 1 rfl) ?_
      refine lv_bipush (v := 8) hx hb dX0_firstChanged_3 (by decide) ?_
      refine lv_icmp_ge (tgt := 25) hx hb dX0_firstChanged_5 (by decide) (fun c_1 => ?_) (fun c_1 => absurd (by rw [show i = 8 by omega]; decide) c_1)
      refine lv_iconst (v := (-1)) hx hb dX0_firstChanged_25 (by decide) ?_
      have hP9 : va_P (dC, dI) vwCl [(hB, .inr (2, [.ref hW, .ref hC, .ref hV, .ref hN])), (hN, .inl (cZ, 8, .inl ch))] H := hP.sub [0, 1] rfl
      have hD9 : va_D A [(hB, .inr (2, [.ref hW, .ref hC, .ref hV, .ref hN])), (hN, .inl (cZ, 8, .inl ch))] := hD.sub [0, 1] (by decide) rfl
      have eF : bl_fst ch 8 0 = (-1) := hI.symm
      exact my_ir hx hb hr hlocks hK (by first | (rw [eF]; exact hP9) | exact hP9) (by first | (rw [eF]; exact hD9) | exact hD9) hS (by rw [eF]) dX0_firstChanged_26
    | succ k ih =>
      intro i  hn hI H locs ls hP hD hS hl
      refine lv_iload_n hx hb dX0_firstChanged_2 rfl (lv_at hl 1 rfl) ?_
      refine lv_bipush (v := 8) hx hb dX0_firstChanged_3 (by decide) ?_
      refine lv_icmp_ge (tgt := 25) hx hb dX0_firstChanged_5 (by decide) (fun c_2 => absurd c_2 (nI_ge (b := 8) (by omega) (by decide))) (fun c_2 => ?_)
      refine lv_aload_n hx hb dX0_firstChanged_8 rfl (lv_at hl 0 rfl) ?_
      refine va_get (D := (dC, dI)) (ci := 2) (v := .ref hN) (C := RX0) (T := TX0) (N := 4) hx hb hts (by decide +kernel) hown hK hP 0 rfl rfl 3 (by decide) (hts (.fieldLink RX0 25 "StartSleep$Blocks" "changed" "[Z") (by decide +kernel)) (fun _ h9 => h9) rfl dX0_firstChanged_9 ?_
      refine lv_iload_n hx hb dX0_firstChanged_12 rfl (lv_at hl 1 rfl) ?_
      refine va_zald hx hb hK hP 1 0 rfl rfl (vp_in_nI (by omega) (by decide)) dX0_firstChanged_13 ?_
      rw [nI_clamp (by omega)]
      refine lv_if_eq (tgt := 19) hx hb dX0_firstChanged_14 (by decide) (fun c_3 => ?_) (fun c_3 => ?_)
      · refine lv_iinc (v := ((nI i) + 1)) (lv' := [(1, .int ((nI i) + 1)), (0, .ref hB)]) hx hb dX0_firstChanged_19 hl (k := 1) rfl rfl (by decide) rfl (fun ls hl => ?_)
        refine lv_goto (tgt := 2) hx hb dX0_firstChanged_22 (by decide) ?_
        rw [nI_1 i] at hl
        exact ih (i + 1)  (by omega) (by rw [← hI]; simp only [bl_fst, if_pos c_3]) _ _ ls (hP.sub [0, 1] rfl) (hD.sub [0, 1] (by decide) rfl) hS (lv_sub hl [1, 0] rfl)
      · refine lv_iload_n hx hb dX0_firstChanged_17 rfl (lv_at hl 1 rfl) ?_
        have hP9 : va_P (dC, dI) vwCl [(hB, .inr (2, [.ref hW, .ref hC, .ref hV, .ref hN])), (hN, .inl (cZ, 8, .inl ch))] H := hP.sub [0, 1] rfl
        have hD9 : va_D A [(hB, .inr (2, [.ref hW, .ref hC, .ref hV, .ref hN])), (hN, .inl (cZ, 8, .inl ch))] := hD.sub [0, 1] (by decide) rfl
        have eF : bl_fst ch 8 0 = nI i := (by rw [← hI]; simp only [bl_fst, if_neg c_3])
        exact my_ir hx hb hr hlocks hK (by first | (rw [eF]; exact hP9) | exact hP9) (by first | (rw [eF]; exact hD9) | exact hD9) hS (by rw [eF]) dX0_firstChanged_18
  exact loop 8 0  rfl rfl _ _ ls (hP.sub [0, 1] rfl) (hD.sub [0, 1] (by decide) rfl) hS (lv_sub hl [1, 0] rfl)
set_option maxHeartbeats 4000000 in
set_option maxRecDepth 100000 in
theorem c_Blocks_put (l : Launch) (dC : Nat → ClassId) (dI : Nat → Nat → Nat) (sz : Nat) (cZ : ClassId) (cB : ClassId) (cI : ClassId) (cG : ClassId) (cJ : ClassId) (hB : Nat) (hW : Nat) (hC : Nat) (hV : Nat) (hN : Nat) (wk : Nat → Int32) (ch : Nat → Int32) (n : Int32) (i : Int32) (b : Int32)  : Met l yX0_put wsX0_put ({ frames := 2, cells := 0, slots := 0, locals := 100 }) (va_Pc [.ref hB, .int n, .int i, .int b] (my_P (dC, dI) vwCl [(cZ, .boolean), (cB, .byte), (cI, .int), (cG, .array .byte), (cJ, .array .int)] sz [(hB, .inr (2, [.ref hW, .ref hC, .ref hV, .ref hN])), (hW, .inl (cB, 128, .inl wk)), (hN, .inl (cZ, 8, .inl ch))])) (my_Qv (dC, dI) vwCl [(cZ, .boolean), (cB, .byte), (cI, .int), (cG, .array .byte), (cJ, .array .int)] [(hB, .inr (2, [.ref hW, .ref hC, .ref hV, .ref hN])), (hW, .inl (cB, 128, .inl ((bl_put wk ch n i b).1))), (hN, .inl (cZ, 8, .inl ((bl_put wk ch n i b).2)))] (va_A [(hB, .inr (2, [.ref hW, .ref hC, .ref hV, .ref hN])), (hW, .inl (cB, 128, .inl wk)), (hN, .inl (cZ, 8, .inl ch))] sz)) 0 0 (va_A [(hB, .inr (2, [.ref hW, .ref hC, .ref hV, .ref hN])), (hW, .inl (cB, 128, .inl wk)), (hN, .inl (cZ, 8, .inl ch))] sz) := by
  refine my_met (cc := cX0_put) (maxL := 4) (ret9 := none) (fun A => my_Qv (dC, dI) vwCl [(cZ, .boolean), (cB, .byte), (cI, .int), (cG, .array .byte), (cJ, .array .int)] [(hB, .inr (2, [.ref hW, .ref hC, .ref hV, .ref hN])), (hW, .inl (cB, 128, .inl ((bl_put wk ch n i b).1))), (hN, .inl (cZ, 8, .inl ((bl_put wk ch n i b).2)))] A) (by decide) rfl (Nat.le_of_ble_eq_true rfl) ?_
  intro p e s m below meth c A ls hx hb hr hlocks hml hown hin hts hl hK hP hD hS hA
  have hown : s.vm.findClass RX0 = some m.cls := hown
  have hl : lv_has ls 4 [(0, .ref hB), (1, .int n), (2, .int i), (3, .int b)] := hl
  obtain ⟨H, hH⟩ : ∃ H, H = s.heap := ⟨_, rfl⟩
  have hP : va_P (dC, dI) vwCl [(hB, .inr (2, [.ref hW, .ref hC, .ref hV, .ref hN])), (hW, .inl (cB, 128, .inl wk)), (hN, .inl (cZ, 8, .inl ch))] H := by rw [hH]; exact hP
  have hS : va_S A s.heap H [] := by rw [hH]; exact hS
  rw [← hH]
  refine lv_iload_n hx hb dX0_put_0 rfl (lv_at hl 1 rfl) ?_
  refine my_ci (wr := [(hB, .inr (2, [.ref hW, .ref hC, .ref hV, .ref hN])), (hW, .inl (cB, 128, .inl wk)), (hN, .inl (cZ, 8, .inl ch))]) hP hD hS hA [] [0, 1, 2] (my_S (As := [.int n]) (rest := []) ⟨hx, hb, hml, hown, hts⟩ (c_Blocks_has l dC dI H.size cZ cB cI cG cJ n ) (va_cwS 1 hts gX0_put_X0_has rfl rfl rfl (by decide +kernel) ⟨Nat.le_of_ble_eq_true rfl, Nat.le_of_ble_eq_true rfl⟩) hK hP hD [] rfl (by decide) rfl hl.1 rfl (Nat.le_of_ble_eq_true rfl) dX0_put_1 ⟨Nat.zero_le _, Nat.zero_le _⟩) rfl rfl (by decide) (by decide) (fun H locs hP hD hS => ?_)
  have hP : va_P (dC, dI) vwCl [(hB, .inr (2, [.ref hW, .ref hC, .ref hV, .ref hN])), (hW, .inl (cB, 128, .inl wk)), (hN, .inl (cZ, 8, .inl ch))] H := hP
  have hD : va_D A [(hB, .inr (2, [.ref hW, .ref hC, .ref hV, .ref hN])), (hW, .inl (cB, 128, .inl wk)), (hN, .inl (cZ, 8, .inl ch))] := hD
  refine lv_if_eq (tgt := 33) hx hb dX0_put_4 (by decide) (fun c_1 => ?_) (fun c_1 => ?_)
  · have hP9 : va_P (dC, dI) vwCl [(hB, .inr (2, [.ref hW, .ref hC, .ref hV, .ref hN])), (hW, .inl (cB, 128, .inl wk)), (hN, .inl (cZ, 8, .inl ch))] H := hP.sub [0, 1, 2] rfl
    have hD9 : va_D A [(hB, .inr (2, [.ref hW, .ref hC, .ref hV, .ref hN])), (hW, .inl (cB, 128, .inl wk)), (hN, .inl (cZ, 8, .inl ch))] := hD.sub [0, 1, 2] (by decide) rfl
    have eF : bl_put wk ch n i b = (wk, ch) := by simp only [bl_put, if_pos c_1]
    exact my_vr hx hb hr hlocks hK (by first | (rw [eF]; exact hP9) | exact hP9) (by first | (rw [eF]; exact hD9) | exact hD9) hS dX0_put_33
  · refine lv_iload_n hx hb dX0_put_7 rfl (lv_at hl 2 rfl) ?_
    refine my_ci (wr := [(hB, .inr (2, [.ref hW, .ref hC, .ref hV, .ref hN])), (hW, .inl (cB, 128, .inl wk)), (hN, .inl (cZ, 8, .inl ch))]) hP hD hS hA [] [0, 1, 2] (my_S (As := [.int i]) (rest := []) ⟨hx, hb, hml, hown, hts⟩ (c_Blocks_hasOctet l dC dI H.size cZ cB cI cG cJ i ) (va_cwS 1 hts gX0_put_X0_hasOctet rfl rfl rfl (by decide +kernel) ⟨Nat.le_of_ble_eq_true rfl, Nat.le_of_ble_eq_true rfl⟩) hK hP hD [] rfl (by decide) rfl hl.1 rfl (Nat.le_of_ble_eq_true rfl) dX0_put_8 ⟨Nat.zero_le _, Nat.zero_le _⟩) rfl rfl (by decide) (by decide) (fun H locs hP hD hS => ?_)
    have hP : va_P (dC, dI) vwCl [(hB, .inr (2, [.ref hW, .ref hC, .ref hV, .ref hN])), (hW, .inl (cB, 128, .inl wk)), (hN, .inl (cZ, 8, .inl ch))] H := hP
    have hD : va_D A [(hB, .inr (2, [.ref hW, .ref hC, .ref hV, .ref hN])), (hW, .inl (cB, 128, .inl wk)), (hN, .inl (cZ, 8, .inl ch))] := hD
    refine lv_if_eq (tgt := 33) hx hb dX0_put_11 (by decide) (fun c_2 => ?_) (fun c_2 => ?_)
    · have hP9 : va_P (dC, dI) vwCl [(hB, .inr (2, [.ref hW, .ref hC, .ref hV, .ref hN])), (hW, .inl (cB, 128, .inl wk)), (hN, .inl (cZ, 8, .inl ch))] H := hP.sub [0, 1, 2] rfl
      have hD9 : va_D A [(hB, .inr (2, [.ref hW, .ref hC, .ref hV, .ref hN])), (hW, .inl (cB, 128, .inl wk)), (hN, .inl (cZ, 8, .inl ch))] := hD.sub [0, 1, 2] (by decide) rfl
      have eF : bl_put wk ch n i b = (wk, ch) := by simp only [bl_put, if_neg c_1, if_pos c_2]
      exact my_vr hx hb hr hlocks hK (by first | (rw [eF]; exact hP9) | exact hP9) (by first | (rw [eF]; exact hD9) | exact hD9) hS dX0_put_33
    · refine lv_aload_n hx hb dX0_put_14 rfl (lv_at hl 0 rfl) ?_
      refine va_get (D := (dC, dI)) (ci := 2) (v := .ref hW) (C := RX0) (T := TX0) (N := 4) hx hb hts (by decide +kernel) hown hK hP 0 rfl rfl 0 (by decide) (hts (.fieldLink RX0 11 "StartSleep$Blocks" "working" "[B") (by decide +kernel)) (fun _ h9 => h9) rfl dX0_put_15 ?_
      refine lv_iload_n hx hb dX0_put_18 rfl (lv_at hl 1 rfl) ?_
      refine lv_bipush (v := 16) hx hb dX0_put_19 (by decide) ?_
      refine lv_imul hx hb dX0_put_21 ?_
      refine lv_iload_n hx hb dX0_put_22 rfl (lv_at hl 2 rfl) ?_
      refine lv_iadd hx hb dX0_put_23 ?_
      refine lv_iload_n hx hb dX0_put_24 rfl (lv_at hl 3 rfl) ?_
      refine va_bast hx hb hK hP hD hS 1 1 rfl rfl (bl_ix c_1 c_2) dX0_put_25 (fun H locs hP hD hS => ?_)
      have hP : va_P (dC, dI) vwCl [(hB, .inr (2, [.ref hW, .ref hC, .ref hV, .ref hN])), (hW, .inl (cB, 128, .inl (upd wk (((n * 16) + i).toNatClampNeg) (vp_nar .byte b)))), (hN, .inl (cZ, 8, .inl ch))] H := hP
      have hD : va_D A [(hB, .inr (2, [.ref hW, .ref hC, .ref hV, .ref hN])), (hW, .inl (cB, 128, .inl (upd wk (((n * 16) + i).toNatClampNeg) (vp_nar .byte b)))), (hN, .inl (cZ, 8, .inl ch))] := hD
      refine lv_aload_n hx hb dX0_put_26 rfl (lv_at hl 0 rfl) ?_
      refine va_get (D := (dC, dI)) (ci := 2) (v := .ref hN) (C := RX0) (T := TX0) (N := 4) hx hb hts (by decide +kernel) hown hK hP 0 rfl rfl 3 (by decide) (hts (.fieldLink RX0 25 "StartSleep$Blocks" "changed" "[Z") (by decide +kernel)) (fun _ h9 => h9) rfl dX0_put_27 ?_
      refine lv_iload_n hx hb dX0_put_30 rfl (lv_at hl 1 rfl) ?_
      refine lv_iconst (v := 1) hx hb dX0_put_31 (by decide) ?_
      refine va_zast hx hb hK hP hD hS 2 0 rfl rfl (bl_has_in c_1) dX0_put_32 (fun H locs hP hD hS => ?_)
      have hP : va_P (dC, dI) vwCl [(hB, .inr (2, [.ref hW, .ref hC, .ref hV, .ref hN])), (hW, .inl (cB, 128, .inl (upd wk (((n * 16) + i).toNatClampNeg) (vp_nar .byte b)))), (hN, .inl (cZ, 8, .inl (upd ch (n.toNatClampNeg) (vp_nar .boolean 1))))] H := hP
      have hD : va_D A [(hB, .inr (2, [.ref hW, .ref hC, .ref hV, .ref hN])), (hW, .inl (cB, 128, .inl (upd wk (((n * 16) + i).toNatClampNeg) (vp_nar .byte b)))), (hN, .inl (cZ, 8, .inl (upd ch (n.toNatClampNeg) (vp_nar .boolean 1))))] := hD
      have hP9 : va_P (dC, dI) vwCl [(hB, .inr (2, [.ref hW, .ref hC, .ref hV, .ref hN])), (hW, .inl (cB, 128, .inl (upd wk (((n * 16) + i).toNatClampNeg) (vp_nar .byte b)))), (hN, .inl (cZ, 8, .inl (upd ch (n.toNatClampNeg) (vp_nar .boolean 1))))] H := hP.sub [0, 1, 2] rfl
      have hD9 : va_D A [(hB, .inr (2, [.ref hW, .ref hC, .ref hV, .ref hN])), (hW, .inl (cB, 128, .inl (upd wk (((n * 16) + i).toNatClampNeg) (vp_nar .byte b)))), (hN, .inl (cZ, 8, .inl (upd ch (n.toNatClampNeg) (vp_nar .boolean 1))))] := hD.sub [0, 1, 2] (by decide) rfl
      have eF : bl_put wk ch n i b = ((upd wk (((n * 16) + i).toNatClampNeg) (vp_nar .byte b)), (upd ch (n.toNatClampNeg) (vp_nar .boolean 1))) := by simp only [bl_put, if_neg c_1, if_neg c_2]
      exact my_vr hx hb hr hlocks hK (by first | (rw [eF]; exact hP9) | exact hP9) (by first | (rw [eF]; exact hD9) | exact hD9) hS dX0_put_33
set_option maxHeartbeats 4000000 in
set_option maxRecDepth 100000 in
theorem c_Blocks_keptCopy (l : Launch) (dC : Nat → ClassId) (dI : Nat → Nat → Nat) (sz : Nat) (cZ : ClassId) (cB : ClassId) (cI : ClassId) (cG : ClassId) (cJ : ClassId) (hB : Nat) (hW : Nat) (hC : Nat) (hV : Nat) (hN : Nat) (v0 : Nat) (v1 : Nat) (g0 : Nat → Int32) (g1 : Nat → Int32) (n : Int32) (hn : vp_in n 8) : Met l yX0_keptCopy wsX0_keptCopy ({ frames := 0, cells := 0, slots := 0, locals := 0 }) (va_Pc [.ref hB, .int n] (my_P (dC, dI) vwCl [(cZ, .boolean), (cB, .byte), (cI, .int), (cG, .array .byte), (cJ, .array .int)] sz [(hB, .inr (2, [.ref hW, .ref hC, .ref hV, .ref hN])), (hV, .inl (cJ, 2, .inr (.inr (.inr (.inr (my_two v0 v1)))))), (v0, .inl (cI, 8, .inl g0)), (v1, .inl (cI, 8, .inl g1))])) (my_Qi (bl_kc g0 g1 n) (dC, dI) vwCl [(cZ, .boolean), (cB, .byte), (cI, .int), (cG, .array .byte), (cJ, .array .int)] [(hB, .inr (2, [.ref hW, .ref hC, .ref hV, .ref hN])), (hV, .inl (cJ, 2, .inr (.inr (.inr (.inr (my_two v0 v1)))))), (v0, .inl (cI, 8, .inl g0)), (v1, .inl (cI, 8, .inl g1))] (va_A [(hB, .inr (2, [.ref hW, .ref hC, .ref hV, .ref hN])), (hV, .inl (cJ, 2, .inr (.inr (.inr (.inr (my_two v0 v1)))))), (v0, .inl (cI, 8, .inl g0)), (v1, .inl (cI, 8, .inl g1))] sz)) 0 0 (va_A [(hB, .inr (2, [.ref hW, .ref hC, .ref hV, .ref hN])), (hV, .inl (cJ, 2, .inr (.inr (.inr (.inr (my_two v0 v1)))))), (v0, .inl (cI, 8, .inl g0)), (v1, .inl (cI, 8, .inl g1))] sz) := by
  refine my_met (cc := cX0_keptCopy) (maxL := 2) (ret9 := (some .int)) (fun A => my_Qi (bl_kc g0 g1 n) (dC, dI) vwCl [(cZ, .boolean), (cB, .byte), (cI, .int), (cG, .array .byte), (cJ, .array .int)] [(hB, .inr (2, [.ref hW, .ref hC, .ref hV, .ref hN])), (hV, .inl (cJ, 2, .inr (.inr (.inr (.inr (my_two v0 v1)))))), (v0, .inl (cI, 8, .inl g0)), (v1, .inl (cI, 8, .inl g1))] A) (by decide) rfl (Nat.le_of_ble_eq_true rfl) ?_
  intro p e s m below meth c A ls hx hb hr hlocks hml hown hin hts hl hK hP hD hS hA
  have hown : s.vm.findClass RX0 = some m.cls := hown
  have hl : lv_has ls 2 [(0, .ref hB), (1, .int n)] := hl
  obtain ⟨H, hH⟩ : ∃ H, H = s.heap := ⟨_, rfl⟩
  have hP : va_P (dC, dI) vwCl [(hB, .inr (2, [.ref hW, .ref hC, .ref hV, .ref hN])), (hV, .inl (cJ, 2, .inr (.inr (.inr (.inr (my_two v0 v1)))))), (v0, .inl (cI, 8, .inl g0)), (v1, .inl (cI, 8, .inl g1))] H := by rw [hH]; exact hP
  have hS : va_S A s.heap H [] := by rw [hH]; exact hS
  rw [← hH]
  refine lv_aload_n hx hb dX0_keptCopy_0 rfl (lv_at hl 0 rfl) ?_
  refine va_get (D := (dC, dI)) (ci := 2) (v := .ref hV) (C := RX0) (T := TX0) (N := 4) hx hb hts (by decide +kernel) hown hK hP 0 rfl rfl 2 (by decide) (hts (.fieldLink RX0 22 "StartSleep$Blocks" "versions" "[[I") (by decide +kernel)) (fun _ h9 => h9) rfl dX0_keptCopy_1 ?_
  refine lv_iconst (v := 1) hx hb dX0_keptCopy_4 (by decide) ?_
  refine my_ald2 (v := v1) hx hb hK hP 1 4 rfl rfl (by unfold vp_in; decide) rfl dX0_keptCopy_5 ?_
  refine lv_iload_n hx hb dX0_keptCopy_6 rfl (lv_at hl 1 rfl) ?_
  refine va_iald hx hb hK hP 3 2 rfl rfl hn dX0_keptCopy_7 ?_
  refine lv_aload_n hx hb dX0_keptCopy_8 rfl (lv_at hl 0 rfl) ?_
  refine va_get (D := (dC, dI)) (ci := 2) (v := .ref hV) (C := RX0) (T := TX0) (N := 4) hx hb hts (by decide +kernel) hown hK hP 0 rfl rfl 2 (by decide) (hts (.fieldLink RX0 22 "StartSleep$Blocks" "versions" "[[I") (by decide +kernel)) (fun _ h9 => h9) rfl dX0_keptCopy_9 ?_
  refine lv_iconst (v := 0) hx hb dX0_keptCopy_12 (by decide) ?_
  refine my_ald2 (v := v0) hx hb hK hP 1 4 rfl rfl (by unfold vp_in; decide) rfl dX0_keptCopy_13 ?_
  refine lv_iload_n hx hb dX0_keptCopy_14 rfl (lv_at hl 1 rfl) ?_
  refine va_iald hx hb hK hP 2 2 rfl rfl hn dX0_keptCopy_15 ?_
  refine lv_icmp_le (tgt := 23) hx hb dX0_keptCopy_16 (by decide) (fun c_1 => ?_) (fun c_1 => ?_)
  · refine lv_iconst (v := 0) hx hb dX0_keptCopy_23 (by decide) ?_
    have hP9 : va_P (dC, dI) vwCl [(hB, .inr (2, [.ref hW, .ref hC, .ref hV, .ref hN])), (hV, .inl (cJ, 2, .inr (.inr (.inr (.inr (my_two v0 v1)))))), (v0, .inl (cI, 8, .inl g0)), (v1, .inl (cI, 8, .inl g1))] H := hP.sub [0, 1, 2, 3] rfl
    have hD9 : va_D A [(hB, .inr (2, [.ref hW, .ref hC, .ref hV, .ref hN])), (hV, .inl (cJ, 2, .inr (.inr (.inr (.inr (my_two v0 v1)))))), (v0, .inl (cI, 8, .inl g0)), (v1, .inl (cI, 8, .inl g1))] := hD.sub [0, 1, 2, 3] (by decide) rfl
    have eF : bl_kc g0 g1 n = 0 := by simp only [bl_kc, if_pos c_1]
    exact my_ir hx hb hr hlocks hK (by first | (rw [eF]; exact hP9) | exact hP9) (by first | (rw [eF]; exact hD9) | exact hD9) hS (by rw [eF]) dX0_keptCopy_24
  · refine lv_iconst (v := 1) hx hb dX0_keptCopy_19 (by decide) ?_
    refine lv_goto (tgt := 24) hx hb dX0_keptCopy_20 (by decide) ?_
    have hP9 : va_P (dC, dI) vwCl [(hB, .inr (2, [.ref hW, .ref hC, .ref hV, .ref hN])), (hV, .inl (cJ, 2, .inr (.inr (.inr (.inr (my_two v0 v1)))))), (v0, .inl (cI, 8, .inl g0)), (v1, .inl (cI, 8, .inl g1))] H := hP.sub [0, 1, 2, 3] rfl
    have hD9 : va_D A [(hB, .inr (2, [.ref hW, .ref hC, .ref hV, .ref hN])), (hV, .inl (cJ, 2, .inr (.inr (.inr (.inr (my_two v0 v1)))))), (v0, .inl (cI, 8, .inl g0)), (v1, .inl (cI, 8, .inl g1))] := hD.sub [0, 1, 2, 3] (by decide) rfl
    have eF : bl_kc g0 g1 n = 1 := by simp only [bl_kc, if_neg c_1]
    exact my_ir hx hb hr hlocks hK (by first | (rw [eF]; exact hP9) | exact hP9) (by first | (rw [eF]; exact hD9) | exact hD9) hS (by rw [eF]) dX0_keptCopy_24
set_option maxHeartbeats 4000000 in
set_option maxRecDepth 100000 in
theorem c_Blocks_keptOctet (l : Launch) (dC : Nat → ClassId) (dI : Nat → Nat → Nat) (sz : Nat) (cZ : ClassId) (cB : ClassId) (cI : ClassId) (cG : ClassId) (cJ : ClassId) (hB : Nat) (hW : Nat) (hC : Nat) (hV : Nat) (hN : Nat) (v0 : Nat) (v1 : Nat) (g0 : Nat → Int32) (g1 : Nat → Int32) (c0 : Nat) (c1 : Nat) (k0 : Nat → Int32) (k1 : Nat → Int32) (n : Int32) (i : Int32) (h0 : my_by k0) (h1 : my_by k1) : Met l yX0_keptOctet wsX0_keptOctet ({ frames := 2, cells := 0, slots := 0, locals := 100 }) (va_Pc [.ref hB, .int n, .int i] (my_P (dC, dI) vwCl [(cZ, .boolean), (cB, .byte), (cI, .int), (cG, .array .byte), (cJ, .array .int)] sz [(hB, .inr (2, [.ref hW, .ref hC, .ref hV, .ref hN])), (hV, .inl (cJ, 2, .inr (.inr (.inr (.inr (my_two v0 v1)))))), (v0, .inl (cI, 8, .inl g0)), (v1, .inl (cI, 8, .inl g1)), (hC, .inl (cG, 2, .inr (.inr (.inr (.inr (my_two c0 c1)))))), (c0, .inl (cB, 128, .inl k0)), (c1, .inl (cB, 128, .inl k1))])) (my_Qi (bl_kept k0 k1 g0 g1 n i) (dC, dI) vwCl [(cZ, .boolean), (cB, .byte), (cI, .int), (cG, .array .byte), (cJ, .array .int)] [(hB, .inr (2, [.ref hW, .ref hC, .ref hV, .ref hN])), (hV, .inl (cJ, 2, .inr (.inr (.inr (.inr (my_two v0 v1)))))), (v0, .inl (cI, 8, .inl g0)), (v1, .inl (cI, 8, .inl g1)), (hC, .inl (cG, 2, .inr (.inr (.inr (.inr (my_two c0 c1)))))), (c0, .inl (cB, 128, .inl k0)), (c1, .inl (cB, 128, .inl k1))] (va_A [(hB, .inr (2, [.ref hW, .ref hC, .ref hV, .ref hN])), (hV, .inl (cJ, 2, .inr (.inr (.inr (.inr (my_two v0 v1)))))), (v0, .inl (cI, 8, .inl g0)), (v1, .inl (cI, 8, .inl g1)), (hC, .inl (cG, 2, .inr (.inr (.inr (.inr (my_two c0 c1)))))), (c0, .inl (cB, 128, .inl k0)), (c1, .inl (cB, 128, .inl k1))] sz)) 0 0 (va_A [(hB, .inr (2, [.ref hW, .ref hC, .ref hV, .ref hN])), (hV, .inl (cJ, 2, .inr (.inr (.inr (.inr (my_two v0 v1)))))), (v0, .inl (cI, 8, .inl g0)), (v1, .inl (cI, 8, .inl g1)), (hC, .inl (cG, 2, .inr (.inr (.inr (.inr (my_two c0 c1)))))), (c0, .inl (cB, 128, .inl k0)), (c1, .inl (cB, 128, .inl k1))] sz) := by
  refine my_met (cc := cX0_keptOctet) (maxL := 3) (ret9 := (some .byte)) (fun A => my_Qi (bl_kept k0 k1 g0 g1 n i) (dC, dI) vwCl [(cZ, .boolean), (cB, .byte), (cI, .int), (cG, .array .byte), (cJ, .array .int)] [(hB, .inr (2, [.ref hW, .ref hC, .ref hV, .ref hN])), (hV, .inl (cJ, 2, .inr (.inr (.inr (.inr (my_two v0 v1)))))), (v0, .inl (cI, 8, .inl g0)), (v1, .inl (cI, 8, .inl g1)), (hC, .inl (cG, 2, .inr (.inr (.inr (.inr (my_two c0 c1)))))), (c0, .inl (cB, 128, .inl k0)), (c1, .inl (cB, 128, .inl k1))] A) (by decide) rfl (Nat.le_of_ble_eq_true rfl) ?_
  intro p e s m below meth c A ls hx hb hr hlocks hml hown hin hts hl hK hP hD hS hA
  have hown : s.vm.findClass RX0 = some m.cls := hown
  have hl : lv_has ls 3 [(0, .ref hB), (1, .int n), (2, .int i)] := hl
  obtain ⟨H, hH⟩ : ∃ H, H = s.heap := ⟨_, rfl⟩
  have hP : va_P (dC, dI) vwCl [(hB, .inr (2, [.ref hW, .ref hC, .ref hV, .ref hN])), (hV, .inl (cJ, 2, .inr (.inr (.inr (.inr (my_two v0 v1)))))), (v0, .inl (cI, 8, .inl g0)), (v1, .inl (cI, 8, .inl g1)), (hC, .inl (cG, 2, .inr (.inr (.inr (.inr (my_two c0 c1)))))), (c0, .inl (cB, 128, .inl k0)), (c1, .inl (cB, 128, .inl k1))] H := by rw [hH]; exact hP
  have hS : va_S A s.heap H [] := by rw [hH]; exact hS
  rw [← hH]
  refine lv_iload_n hx hb dX0_keptOctet_0 rfl (lv_at hl 1 rfl) ?_
  refine my_ci (wr := [(hB, .inr (2, [.ref hW, .ref hC, .ref hV, .ref hN])), (hV, .inl (cJ, 2, .inr (.inr (.inr (.inr (my_two v0 v1)))))), (v0, .inl (cI, 8, .inl g0)), (v1, .inl (cI, 8, .inl g1)), (hC, .inl (cG, 2, .inr (.inr (.inr (.inr (my_two c0 c1)))))), (c0, .inl (cB, 128, .inl k0)), (c1, .inl (cB, 128, .inl k1))]) hP hD hS hA [] [0, 1, 2, 3, 4, 5, 6] (my_S (As := [.int n]) (rest := []) ⟨hx, hb, hml, hown, hts⟩ (c_Blocks_has l dC dI H.size cZ cB cI cG cJ n ) (va_cwS 1 hts gX0_keptOctet_X0_has rfl rfl rfl (by decide +kernel) ⟨Nat.le_of_ble_eq_true rfl, Nat.le_of_ble_eq_true rfl⟩) hK hP hD [] rfl (by decide) rfl hl.1 rfl (Nat.le_of_ble_eq_true rfl) dX0_keptOctet_1 ⟨Nat.zero_le _, Nat.zero_le _⟩) rfl rfl (by decide) (by decide) (fun H locs hP hD hS => ?_)
  have hP : va_P (dC, dI) vwCl [(hB, .inr (2, [.ref hW, .ref hC, .ref hV, .ref hN])), (hV, .inl (cJ, 2, .inr (.inr (.inr (.inr (my_two v0 v1)))))), (v0, .inl (cI, 8, .inl g0)), (v1, .inl (cI, 8, .inl g1)), (hC, .inl (cG, 2, .inr (.inr (.inr (.inr (my_two c0 c1)))))), (c0, .inl (cB, 128, .inl k0)), (c1, .inl (cB, 128, .inl k1))] H := hP
  have hD : va_D A [(hB, .inr (2, [.ref hW, .ref hC, .ref hV, .ref hN])), (hV, .inl (cJ, 2, .inr (.inr (.inr (.inr (my_two v0 v1)))))), (v0, .inl (cI, 8, .inl g0)), (v1, .inl (cI, 8, .inl g1)), (hC, .inl (cG, 2, .inr (.inr (.inr (.inr (my_two c0 c1)))))), (c0, .inl (cB, 128, .inl k0)), (c1, .inl (cB, 128, .inl k1))] := hD
  refine lv_if_eq (tgt := 34) hx hb dX0_keptOctet_4 (by decide) (fun c_1 => ?_) (fun c_1 => ?_)
  · refine lv_iconst (v := 0) hx hb dX0_keptOctet_34 (by decide) ?_
    have hP9 : va_P (dC, dI) vwCl [(hB, .inr (2, [.ref hW, .ref hC, .ref hV, .ref hN])), (hV, .inl (cJ, 2, .inr (.inr (.inr (.inr (my_two v0 v1)))))), (v0, .inl (cI, 8, .inl g0)), (v1, .inl (cI, 8, .inl g1)), (hC, .inl (cG, 2, .inr (.inr (.inr (.inr (my_two c0 c1)))))), (c0, .inl (cB, 128, .inl k0)), (c1, .inl (cB, 128, .inl k1))] H := hP.sub [0, 1, 2, 3, 4, 5, 6] rfl
    have hD9 : va_D A [(hB, .inr (2, [.ref hW, .ref hC, .ref hV, .ref hN])), (hV, .inl (cJ, 2, .inr (.inr (.inr (.inr (my_two v0 v1)))))), (v0, .inl (cI, 8, .inl g0)), (v1, .inl (cI, 8, .inl g1)), (hC, .inl (cG, 2, .inr (.inr (.inr (.inr (my_two c0 c1)))))), (c0, .inl (cB, 128, .inl k0)), (c1, .inl (cB, 128, .inl k1))] := hD.sub [0, 1, 2, 3, 4, 5, 6] (by decide) rfl
    have eF : bl_kept k0 k1 g0 g1 n i = 0 := by simp [bl_kept, c_1]
    exact my_zr hx hb hr hlocks rfl hK (by first | (rw [eF]; exact hP9) | exact hP9) (by first | (rw [eF]; exact hD9) | exact hD9) hS (by rw [eF]) dX0_keptOctet_35
  · refine lv_iload_n hx hb dX0_keptOctet_7 rfl (lv_at hl 2 rfl) ?_
    refine my_ci (wr := [(hB, .inr (2, [.ref hW, .ref hC, .ref hV, .ref hN])), (hV, .inl (cJ, 2, .inr (.inr (.inr (.inr (my_two v0 v1)))))), (v0, .inl (cI, 8, .inl g0)), (v1, .inl (cI, 8, .inl g1)), (hC, .inl (cG, 2, .inr (.inr (.inr (.inr (my_two c0 c1)))))), (c0, .inl (cB, 128, .inl k0)), (c1, .inl (cB, 128, .inl k1))]) hP hD hS hA [] [0, 1, 2, 3, 4, 5, 6] (my_S (As := [.int i]) (rest := []) ⟨hx, hb, hml, hown, hts⟩ (c_Blocks_hasOctet l dC dI H.size cZ cB cI cG cJ i ) (va_cwS 1 hts gX0_keptOctet_X0_hasOctet rfl rfl rfl (by decide +kernel) ⟨Nat.le_of_ble_eq_true rfl, Nat.le_of_ble_eq_true rfl⟩) hK hP hD [] rfl (by decide) rfl hl.1 rfl (Nat.le_of_ble_eq_true rfl) dX0_keptOctet_8 ⟨Nat.zero_le _, Nat.zero_le _⟩) rfl rfl (by decide) (by decide) (fun H locs hP hD hS => ?_)
    have hP : va_P (dC, dI) vwCl [(hB, .inr (2, [.ref hW, .ref hC, .ref hV, .ref hN])), (hV, .inl (cJ, 2, .inr (.inr (.inr (.inr (my_two v0 v1)))))), (v0, .inl (cI, 8, .inl g0)), (v1, .inl (cI, 8, .inl g1)), (hC, .inl (cG, 2, .inr (.inr (.inr (.inr (my_two c0 c1)))))), (c0, .inl (cB, 128, .inl k0)), (c1, .inl (cB, 128, .inl k1))] H := hP
    have hD : va_D A [(hB, .inr (2, [.ref hW, .ref hC, .ref hV, .ref hN])), (hV, .inl (cJ, 2, .inr (.inr (.inr (.inr (my_two v0 v1)))))), (v0, .inl (cI, 8, .inl g0)), (v1, .inl (cI, 8, .inl g1)), (hC, .inl (cG, 2, .inr (.inr (.inr (.inr (my_two c0 c1)))))), (c0, .inl (cB, 128, .inl k0)), (c1, .inl (cB, 128, .inl k1))] := hD
    refine lv_if_eq (tgt := 34) hx hb dX0_keptOctet_11 (by decide) (fun c_2 => ?_) (fun c_2 => ?_)
    · refine lv_iconst (v := 0) hx hb dX0_keptOctet_34 (by decide) ?_
      have hP9 : va_P (dC, dI) vwCl [(hB, .inr (2, [.ref hW, .ref hC, .ref hV, .ref hN])), (hV, .inl (cJ, 2, .inr (.inr (.inr (.inr (my_two v0 v1)))))), (v0, .inl (cI, 8, .inl g0)), (v1, .inl (cI, 8, .inl g1)), (hC, .inl (cG, 2, .inr (.inr (.inr (.inr (my_two c0 c1)))))), (c0, .inl (cB, 128, .inl k0)), (c1, .inl (cB, 128, .inl k1))] H := hP.sub [0, 1, 2, 3, 4, 5, 6] rfl
      have hD9 : va_D A [(hB, .inr (2, [.ref hW, .ref hC, .ref hV, .ref hN])), (hV, .inl (cJ, 2, .inr (.inr (.inr (.inr (my_two v0 v1)))))), (v0, .inl (cI, 8, .inl g0)), (v1, .inl (cI, 8, .inl g1)), (hC, .inl (cG, 2, .inr (.inr (.inr (.inr (my_two c0 c1)))))), (c0, .inl (cB, 128, .inl k0)), (c1, .inl (cB, 128, .inl k1))] := hD.sub [0, 1, 2, 3, 4, 5, 6] (by decide) rfl
      have eF : bl_kept k0 k1 g0 g1 n i = 0 := by simp [bl_kept, c_1, c_2]
      exact my_zr hx hb hr hlocks rfl hK (by first | (rw [eF]; exact hP9) | exact hP9) (by first | (rw [eF]; exact hD9) | exact hD9) hS (by rw [eF]) dX0_keptOctet_35
    · refine lv_aload_n hx hb dX0_keptOctet_14 rfl (lv_at hl 0 rfl) ?_
      refine va_get (D := (dC, dI)) (ci := 2) (v := .ref hC) (C := RX0) (T := TX0) (N := 4) hx hb hts (by decide +kernel) hown hK hP 0 rfl rfl 1 (by decide) (hts (.fieldLink RX0 17 "StartSleep$Blocks" "copies" "[[B") (by decide +kernel)) (fun _ h9 => h9) rfl dX0_keptOctet_15 ?_
      refine lv_aload_n hx hb dX0_keptOctet_18 rfl (lv_at hl 0 rfl) ?_
      refine lv_iload_n hx hb dX0_keptOctet_19 rfl (lv_at hl 1 rfl) ?_
      refine my_ci (wr := [(hC, .inl (cG, 2, .inr (.inr (.inr (.inr (my_two c0 c1)))))), (c0, .inl (cB, 128, .inl k0)), (c1, .inl (cB, 128, .inl k1))]) hP hD hS hA [0, 1, 2, 3] [4, 5, 6] (my_V (As := [.int n]) (rest := [.ref hC]) ⟨hx, hb, hml, hown, hts⟩ (c_Blocks_keptCopy l dC dI H.size cZ cB cI cG cJ hB hW hC hV hN v0 v1 g0 g1 n (bl_has_in c_1)) (cwV 1 hts gX0_keptOctet_X0_keptCopy rfl rfl rfl (by decide +kernel) ⟨Nat.le_of_ble_eq_true rfl, Nat.le_of_ble_eq_true rfl⟩) hK hP hD [0, 1, 2, 3] rfl (by decide) rfl rfl rfl hl.1 rfl (Nat.le_of_ble_eq_true rfl) dX0_keptOctet_20 ⟨Nat.zero_le _, Nat.zero_le _⟩) rfl rfl (by decide) (by decide) (fun H locs hP hD hS => ?_)
      have hP : va_P (dC, dI) vwCl [(hC, .inl (cG, 2, .inr (.inr (.inr (.inr (my_two c0 c1)))))), (c0, .inl (cB, 128, .inl k0)), (c1, .inl (cB, 128, .inl k1)), (hB, .inr (2, [.ref hW, .ref hC, .ref hV, .ref hN])), (hV, .inl (cJ, 2, .inr (.inr (.inr (.inr (my_two v0 v1)))))), (v0, .inl (cI, 8, .inl g0)), (v1, .inl (cI, 8, .inl g1))] H := hP
      have hD : va_D A [(hC, .inl (cG, 2, .inr (.inr (.inr (.inr (my_two c0 c1)))))), (c0, .inl (cB, 128, .inl k0)), (c1, .inl (cB, 128, .inl k1)), (hB, .inr (2, [.ref hW, .ref hC, .ref hV, .ref hN])), (hV, .inl (cJ, 2, .inr (.inr (.inr (.inr (my_two v0 v1)))))), (v0, .inl (cI, 8, .inl g0)), (v1, .inl (cI, 8, .inl g1))] := hD
      rcases bl_kc_or g0 g1 n with hk_3 | hk_3
      · rw [hk_3]
        refine my_ald2 (v := c0) hx hb hK hP 0 3 rfl rfl (by unfold vp_in; decide) rfl dX0_keptOctet_23 ?_
        refine lv_iload_n hx hb dX0_keptOctet_24 rfl (lv_at hl 1 rfl) ?_
        refine lv_bipush (v := 16) hx hb dX0_keptOctet_25 (by decide) ?_
        refine lv_imul hx hb dX0_keptOctet_27 ?_
        refine lv_iload_n hx hb dX0_keptOctet_28 rfl (lv_at hl 2 rfl) ?_
        refine lv_iadd hx hb dX0_keptOctet_29 ?_
        refine va_bald hx hb hK hP 1 1 rfl rfl (bl_ix c_1 c_2) dX0_keptOctet_30 ?_
        refine lv_goto (tgt := 35) hx hb dX0_keptOctet_31 (by decide) ?_
        have hP9 : va_P (dC, dI) vwCl [(hB, .inr (2, [.ref hW, .ref hC, .ref hV, .ref hN])), (hV, .inl (cJ, 2, .inr (.inr (.inr (.inr (my_two v0 v1)))))), (v0, .inl (cI, 8, .inl g0)), (v1, .inl (cI, 8, .inl g1)), (hC, .inl (cG, 2, .inr (.inr (.inr (.inr (my_two c0 c1)))))), (c0, .inl (cB, 128, .inl k0)), (c1, .inl (cB, 128, .inl k1))] H := hP.sub [3, 4, 5, 6, 0, 1, 2] rfl
        have hD9 : va_D A [(hB, .inr (2, [.ref hW, .ref hC, .ref hV, .ref hN])), (hV, .inl (cJ, 2, .inr (.inr (.inr (.inr (my_two v0 v1)))))), (v0, .inl (cI, 8, .inl g0)), (v1, .inl (cI, 8, .inl g1)), (hC, .inl (cG, 2, .inr (.inr (.inr (.inr (my_two c0 c1)))))), (c0, .inl (cB, 128, .inl k0)), (c1, .inl (cB, 128, .inl k1))] := hD.sub [3, 4, 5, 6, 0, 1, 2] (by decide) rfl
        have eF : bl_kept k0 k1 g0 g1 n i = k0 (((n * 16) + i).toNatClampNeg) := by simp [bl_kept, c_1, c_2, hk_3]
        exact my_zr hx hb hr hlocks (my_by_nar h0 _) hK (by first | (rw [eF]; exact hP9) | exact hP9) (by first | (rw [eF]; exact hD9) | exact hD9) hS (by rw [eF]) dX0_keptOctet_35
      · rw [hk_3]
        refine my_ald2 (v := c1) hx hb hK hP 0 3 rfl rfl (by unfold vp_in; decide) rfl dX0_keptOctet_23 ?_
        refine lv_iload_n hx hb dX0_keptOctet_24 rfl (lv_at hl 1 rfl) ?_
        refine lv_bipush (v := 16) hx hb dX0_keptOctet_25 (by decide) ?_
        refine lv_imul hx hb dX0_keptOctet_27 ?_
        refine lv_iload_n hx hb dX0_keptOctet_28 rfl (lv_at hl 2 rfl) ?_
        refine lv_iadd hx hb dX0_keptOctet_29 ?_
        refine va_bald hx hb hK hP 2 1 rfl rfl (bl_ix c_1 c_2) dX0_keptOctet_30 ?_
        refine lv_goto (tgt := 35) hx hb dX0_keptOctet_31 (by decide) ?_
        have hP9 : va_P (dC, dI) vwCl [(hB, .inr (2, [.ref hW, .ref hC, .ref hV, .ref hN])), (hV, .inl (cJ, 2, .inr (.inr (.inr (.inr (my_two v0 v1)))))), (v0, .inl (cI, 8, .inl g0)), (v1, .inl (cI, 8, .inl g1)), (hC, .inl (cG, 2, .inr (.inr (.inr (.inr (my_two c0 c1)))))), (c0, .inl (cB, 128, .inl k0)), (c1, .inl (cB, 128, .inl k1))] H := hP.sub [3, 4, 5, 6, 0, 1, 2] rfl
        have hD9 : va_D A [(hB, .inr (2, [.ref hW, .ref hC, .ref hV, .ref hN])), (hV, .inl (cJ, 2, .inr (.inr (.inr (.inr (my_two v0 v1)))))), (v0, .inl (cI, 8, .inl g0)), (v1, .inl (cI, 8, .inl g1)), (hC, .inl (cG, 2, .inr (.inr (.inr (.inr (my_two c0 c1)))))), (c0, .inl (cB, 128, .inl k0)), (c1, .inl (cB, 128, .inl k1))] := hD.sub [3, 4, 5, 6, 0, 1, 2] (by decide) rfl
        have eF : bl_kept k0 k1 g0 g1 n i = k1 (((n * 16) + i).toNatClampNeg) := by simp [bl_kept, c_1, c_2, hk_3]
        exact my_zr hx hb hr hlocks (my_by_nar h1 _) hK (by first | (rw [eF]; exact hP9) | exact hP9) (by first | (rw [eF]; exact hD9) | exact hD9) hS (by rw [eF]) dX0_keptOctet_35
set_option maxHeartbeats 4000000 in
set_option maxRecDepth 100000 in
theorem c_Blocks_tear (l : Launch) (dC : Nat → ClassId) (dI : Nat → Nat → Nat) (sz : Nat) (cZ : ClassId) (cB : ClassId) (cI : ClassId) (cG : ClassId) (cJ : ClassId) (hB : Nat) (hW : Nat) (hC : Nat) (hV : Nat) (hN : Nat) (v0 : Nat) (v1 : Nat) (g0 : Nat → Int32) (g1 : Nat → Int32) (n : Int32)  : Met l yX0_tear wsX0_tear ({ frames := 2, cells := 0, slots := 0, locals := 100 }) (va_Pc [.ref hB, .int n] (my_P (dC, dI) vwCl [(cZ, .boolean), (cB, .byte), (cI, .int), (cG, .array .byte), (cJ, .array .int)] sz [(hB, .inr (2, [.ref hW, .ref hC, .ref hV, .ref hN])), (hV, .inl (cJ, 2, .inr (.inr (.inr (.inr (my_two v0 v1)))))), (v0, .inl (cI, 8, .inl g0)), (v1, .inl (cI, 8, .inl g1))])) (my_Qv (dC, dI) vwCl [(cZ, .boolean), (cB, .byte), (cI, .int), (cG, .array .byte), (cJ, .array .int)] [(hB, .inr (2, [.ref hW, .ref hC, .ref hV, .ref hN])), (hV, .inl (cJ, 2, .inr (.inr (.inr (.inr (my_two v0 v1)))))), (v0, .inl (cI, 8, .inl ((bl_tear g0 g1 n).1))), (v1, .inl (cI, 8, .inl ((bl_tear g0 g1 n).2)))] (va_A [(hB, .inr (2, [.ref hW, .ref hC, .ref hV, .ref hN])), (hV, .inl (cJ, 2, .inr (.inr (.inr (.inr (my_two v0 v1)))))), (v0, .inl (cI, 8, .inl g0)), (v1, .inl (cI, 8, .inl g1))] sz)) 0 0 (va_A [(hB, .inr (2, [.ref hW, .ref hC, .ref hV, .ref hN])), (hV, .inl (cJ, 2, .inr (.inr (.inr (.inr (my_two v0 v1)))))), (v0, .inl (cI, 8, .inl g0)), (v1, .inl (cI, 8, .inl g1))] sz) := by
  refine my_met (cc := cX0_tear) (maxL := 2) (ret9 := none) (fun A => my_Qv (dC, dI) vwCl [(cZ, .boolean), (cB, .byte), (cI, .int), (cG, .array .byte), (cJ, .array .int)] [(hB, .inr (2, [.ref hW, .ref hC, .ref hV, .ref hN])), (hV, .inl (cJ, 2, .inr (.inr (.inr (.inr (my_two v0 v1)))))), (v0, .inl (cI, 8, .inl ((bl_tear g0 g1 n).1))), (v1, .inl (cI, 8, .inl ((bl_tear g0 g1 n).2)))] A) (by decide) rfl (Nat.le_of_ble_eq_true rfl) ?_
  intro p e s m below meth c A ls hx hb hr hlocks hml hown hin hts hl hK hP hD hS hA
  have hown : s.vm.findClass RX0 = some m.cls := hown
  have hl : lv_has ls 2 [(0, .ref hB), (1, .int n)] := hl
  obtain ⟨H, hH⟩ : ∃ H, H = s.heap := ⟨_, rfl⟩
  have hP : va_P (dC, dI) vwCl [(hB, .inr (2, [.ref hW, .ref hC, .ref hV, .ref hN])), (hV, .inl (cJ, 2, .inr (.inr (.inr (.inr (my_two v0 v1)))))), (v0, .inl (cI, 8, .inl g0)), (v1, .inl (cI, 8, .inl g1))] H := by rw [hH]; exact hP
  have hS : va_S A s.heap H [] := by rw [hH]; exact hS
  rw [← hH]
  refine lv_iload_n hx hb dX0_tear_0 rfl (lv_at hl 1 rfl) ?_
  refine my_ci (wr := [(hB, .inr (2, [.ref hW, .ref hC, .ref hV, .ref hN])), (hV, .inl (cJ, 2, .inr (.inr (.inr (.inr (my_two v0 v1)))))), (v0, .inl (cI, 8, .inl g0)), (v1, .inl (cI, 8, .inl g1))]) hP hD hS hA [] [0, 1, 2, 3] (my_S (As := [.int n]) (rest := []) ⟨hx, hb, hml, hown, hts⟩ (c_Blocks_has l dC dI H.size cZ cB cI cG cJ n ) (va_cwS 1 hts gX0_tear_X0_has rfl rfl rfl (by decide +kernel) ⟨Nat.le_of_ble_eq_true rfl, Nat.le_of_ble_eq_true rfl⟩) hK hP hD [] rfl (by decide) rfl hl.1 rfl (Nat.le_of_ble_eq_true rfl) dX0_tear_1 ⟨Nat.zero_le _, Nat.zero_le _⟩) rfl rfl (by decide) (by decide) (fun H locs hP hD hS => ?_)
  have hP : va_P (dC, dI) vwCl [(hB, .inr (2, [.ref hW, .ref hC, .ref hV, .ref hN])), (hV, .inl (cJ, 2, .inr (.inr (.inr (.inr (my_two v0 v1)))))), (v0, .inl (cI, 8, .inl g0)), (v1, .inl (cI, 8, .inl g1))] H := hP
  have hD : va_D A [(hB, .inr (2, [.ref hW, .ref hC, .ref hV, .ref hN])), (hV, .inl (cJ, 2, .inr (.inr (.inr (.inr (my_two v0 v1)))))), (v0, .inl (cI, 8, .inl g0)), (v1, .inl (cI, 8, .inl g1))] := hD
  refine lv_if_eq (tgt := 22) hx hb dX0_tear_4 (by decide) (fun c_1 => ?_) (fun c_1 => ?_)
  · have hP9 : va_P (dC, dI) vwCl [(hB, .inr (2, [.ref hW, .ref hC, .ref hV, .ref hN])), (hV, .inl (cJ, 2, .inr (.inr (.inr (.inr (my_two v0 v1)))))), (v0, .inl (cI, 8, .inl g0)), (v1, .inl (cI, 8, .inl g1))] H := hP.sub [0, 1, 2, 3] rfl
    have hD9 : va_D A [(hB, .inr (2, [.ref hW, .ref hC, .ref hV, .ref hN])), (hV, .inl (cJ, 2, .inr (.inr (.inr (.inr (my_two v0 v1)))))), (v0, .inl (cI, 8, .inl g0)), (v1, .inl (cI, 8, .inl g1))] := hD.sub [0, 1, 2, 3] (by decide) rfl
    have eF : bl_tear g0 g1 n = (g0, g1) := by simp [bl_tear, c_1]
    exact my_vr hx hb hr hlocks hK (by first | (rw [eF]; exact hP9) | exact hP9) (by first | (rw [eF]; exact hD9) | exact hD9) hS dX0_tear_22
  · refine lv_aload_n hx hb dX0_tear_7 rfl (lv_at hl 0 rfl) ?_
    refine va_get (D := (dC, dI)) (ci := 2) (v := .ref hV) (C := RX0) (T := TX0) (N := 4) hx hb hts (by decide +kernel) hown hK hP 0 rfl rfl 2 (by decide) (hts (.fieldLink RX0 22 "StartSleep$Blocks" "versions" "[[I") (by decide +kernel)) (fun _ h9 => h9) rfl dX0_tear_8 ?_
    refine lv_iconst (v := 1) hx hb dX0_tear_11 (by decide) ?_
    refine lv_aload_n hx hb dX0_tear_12 rfl (lv_at hl 0 rfl) ?_
    refine lv_iload_n hx hb dX0_tear_13 rfl (lv_at hl 1 rfl) ?_
    refine my_ci (wr := []) hP hD hS hA [0, 1, 2, 3] [] (my_V (As := [.int n]) (rest := [.int 1, .ref hV]) ⟨hx, hb, hml, hown, hts⟩ (c_Blocks_keptCopy l dC dI H.size cZ cB cI cG cJ hB hW hC hV hN v0 v1 g0 g1 n (bl_has_in c_1)) (cwV 1 hts gX0_tear_X0_keptCopy rfl rfl rfl (by decide +kernel) ⟨Nat.le_of_ble_eq_true rfl, Nat.le_of_ble_eq_true rfl⟩) hK hP hD [0, 1, 2, 3] rfl (by decide) rfl rfl rfl hl.1 rfl (Nat.le_of_ble_eq_true rfl) dX0_tear_14 ⟨Nat.zero_le _, Nat.zero_le _⟩) rfl rfl (by decide) (by decide) (fun H locs hP hD hS => ?_)
    have hP : va_P (dC, dI) vwCl [(hB, .inr (2, [.ref hW, .ref hC, .ref hV, .ref hN])), (hV, .inl (cJ, 2, .inr (.inr (.inr (.inr (my_two v0 v1)))))), (v0, .inl (cI, 8, .inl g0)), (v1, .inl (cI, 8, .inl g1))] H := hP
    have hD : va_D A [(hB, .inr (2, [.ref hW, .ref hC, .ref hV, .ref hN])), (hV, .inl (cJ, 2, .inr (.inr (.inr (.inr (my_two v0 v1)))))), (v0, .inl (cI, 8, .inl g0)), (v1, .inl (cI, 8, .inl g1))] := hD
    rcases bl_kc_or g0 g1 n with hk_2 | hk_2
    · rw [hk_2]
      refine lv_isub hx hb dX0_tear_17 ?_
      refine my_ald2 (v := v1) hx hb hK hP 1 4 rfl rfl (by unfold vp_in; decide) rfl dX0_tear_18 ?_
      refine lv_iload_n hx hb dX0_tear_19 rfl (lv_at hl 1 rfl) ?_
      refine lv_iconst (v := 0) hx hb dX0_tear_20 (by decide) ?_
      refine va_iast hx hb hK hP hD hS 3 2 rfl rfl (bl_has_in c_1) dX0_tear_21 (fun H locs hP hD hS => ?_)
      have hP : va_P (dC, dI) vwCl [(hB, .inr (2, [.ref hW, .ref hC, .ref hV, .ref hN])), (hV, .inl (cJ, 2, .inr (.inr (.inr (.inr (my_two v0 v1)))))), (v0, .inl (cI, 8, .inl g0)), (v1, .inl (cI, 8, .inl (upd g1 (n.toNatClampNeg) 0)))] H := hP
      have hD : va_D A [(hB, .inr (2, [.ref hW, .ref hC, .ref hV, .ref hN])), (hV, .inl (cJ, 2, .inr (.inr (.inr (.inr (my_two v0 v1)))))), (v0, .inl (cI, 8, .inl g0)), (v1, .inl (cI, 8, .inl (upd g1 (n.toNatClampNeg) 0)))] := hD
      have hP9 : va_P (dC, dI) vwCl [(hB, .inr (2, [.ref hW, .ref hC, .ref hV, .ref hN])), (hV, .inl (cJ, 2, .inr (.inr (.inr (.inr (my_two v0 v1)))))), (v0, .inl (cI, 8, .inl g0)), (v1, .inl (cI, 8, .inl (upd g1 (n.toNatClampNeg) 0)))] H := hP.sub [0, 1, 2, 3] rfl
      have hD9 : va_D A [(hB, .inr (2, [.ref hW, .ref hC, .ref hV, .ref hN])), (hV, .inl (cJ, 2, .inr (.inr (.inr (.inr (my_two v0 v1)))))), (v0, .inl (cI, 8, .inl g0)), (v1, .inl (cI, 8, .inl (upd g1 (n.toNatClampNeg) 0)))] := hD.sub [0, 1, 2, 3] (by decide) rfl
      have eF : bl_tear g0 g1 n = (g0, (upd g1 (n.toNatClampNeg) 0)) := by simp [bl_tear, c_1, hk_2]
      exact my_vr hx hb hr hlocks hK (by first | (rw [eF]; exact hP9) | exact hP9) (by first | (rw [eF]; exact hD9) | exact hD9) hS dX0_tear_22
    · rw [hk_2]
      refine lv_isub hx hb dX0_tear_17 ?_
      refine my_ald2 (v := v0) hx hb hK hP 1 4 rfl rfl (by unfold vp_in; decide) rfl dX0_tear_18 ?_
      refine lv_iload_n hx hb dX0_tear_19 rfl (lv_at hl 1 rfl) ?_
      refine lv_iconst (v := 0) hx hb dX0_tear_20 (by decide) ?_
      refine va_iast hx hb hK hP hD hS 2 2 rfl rfl (bl_has_in c_1) dX0_tear_21 (fun H locs hP hD hS => ?_)
      have hP : va_P (dC, dI) vwCl [(hB, .inr (2, [.ref hW, .ref hC, .ref hV, .ref hN])), (hV, .inl (cJ, 2, .inr (.inr (.inr (.inr (my_two v0 v1)))))), (v0, .inl (cI, 8, .inl (upd g0 (n.toNatClampNeg) 0))), (v1, .inl (cI, 8, .inl g1))] H := hP
      have hD : va_D A [(hB, .inr (2, [.ref hW, .ref hC, .ref hV, .ref hN])), (hV, .inl (cJ, 2, .inr (.inr (.inr (.inr (my_two v0 v1)))))), (v0, .inl (cI, 8, .inl (upd g0 (n.toNatClampNeg) 0))), (v1, .inl (cI, 8, .inl g1))] := hD
      have hP9 : va_P (dC, dI) vwCl [(hB, .inr (2, [.ref hW, .ref hC, .ref hV, .ref hN])), (hV, .inl (cJ, 2, .inr (.inr (.inr (.inr (my_two v0 v1)))))), (v0, .inl (cI, 8, .inl (upd g0 (n.toNatClampNeg) 0))), (v1, .inl (cI, 8, .inl g1))] H := hP.sub [0, 1, 2, 3] rfl
      have hD9 : va_D A [(hB, .inr (2, [.ref hW, .ref hC, .ref hV, .ref hN])), (hV, .inl (cJ, 2, .inr (.inr (.inr (.inr (my_two v0 v1)))))), (v0, .inl (cI, 8, .inl (upd g0 (n.toNatClampNeg) 0))), (v1, .inl (cI, 8, .inl g1))] := hD.sub [0, 1, 2, 3] (by decide) rfl
      have eF : bl_tear g0 g1 n = ((upd g0 (n.toNatClampNeg) 0), g1) := by simp [bl_tear, c_1, hk_2]
      exact my_vr hx hb hr hlocks hK (by first | (rw [eF]; exact hP9) | exact hP9) (by first | (rw [eF]; exact hD9) | exact hD9) hS dX0_tear_22
set_option maxHeartbeats 4000000 in
set_option maxRecDepth 100000 in
theorem c_Blocks_save (l : Launch) (dC : Nat → ClassId) (dI : Nat → Nat → Nat) (sz : Nat) (cZ : ClassId) (cB : ClassId) (cI : ClassId) (cG : ClassId) (cJ : ClassId) (hB : Nat) (hW : Nat) (hC : Nat) (hV : Nat) (hN : Nat) (wk : Nat → Int32) (v0 : Nat) (v1 : Nat) (g0 : Nat → Int32) (g1 : Nat → Int32) (c0 : Nat) (c1 : Nat) (k0 : Nat → Int32) (k1 : Nat → Int32) (ch : Nat → Int32) (n : Int32) (hw : my_by wk) : Met l yX0_save wsX0_save ({ frames := 2, cells := 0, slots := 0, locals := 100 }) (va_Pc [.ref hB, .int n] (my_P (dC, dI) vwCl [(cZ, .boolean), (cB, .byte), (cI, .int), (cG, .array .byte), (cJ, .array .int)] sz [(hB, .inr (2, [.ref hW, .ref hC, .ref hV, .ref hN])), (hW, .inl (cB, 128, .inl wk)), (hV, .inl (cJ, 2, .inr (.inr (.inr (.inr (my_two v0 v1)))))), (v0, .inl (cI, 8, .inl g0)), (v1, .inl (cI, 8, .inl g1)), (hC, .inl (cG, 2, .inr (.inr (.inr (.inr (my_two c0 c1)))))), (c0, .inl (cB, 128, .inl k0)), (c1, .inl (cB, 128, .inl k1)), (hN, .inl (cZ, 8, .inl ch))])) (my_Qv (dC, dI) vwCl [(cZ, .boolean), (cB, .byte), (cI, .int), (cG, .array .byte), (cJ, .array .int)] [(hB, .inr (2, [.ref hW, .ref hC, .ref hV, .ref hN])), (hW, .inl (cB, 128, .inl wk)), (hV, .inl (cJ, 2, .inr (.inr (.inr (.inr (my_two v0 v1)))))), (v0, .inl (cI, 8, .inl ((bl_save wk k0 k1 g0 g1 ch n).2.2.1))), (v1, .inl (cI, 8, .inl ((bl_save wk k0 k1 g0 g1 ch n).2.2.2.1))), (hC, .inl (cG, 2, .inr (.inr (.inr (.inr (my_two c0 c1)))))), (c0, .inl (cB, 128, .inl ((bl_save wk k0 k1 g0 g1 ch n).1))), (c1, .inl (cB, 128, .inl ((bl_save wk k0 k1 g0 g1 ch n).2.1))), (hN, .inl (cZ, 8, .inl ((bl_save wk k0 k1 g0 g1 ch n).2.2.2.2)))] (va_A [(hB, .inr (2, [.ref hW, .ref hC, .ref hV, .ref hN])), (hW, .inl (cB, 128, .inl wk)), (hV, .inl (cJ, 2, .inr (.inr (.inr (.inr (my_two v0 v1)))))), (v0, .inl (cI, 8, .inl g0)), (v1, .inl (cI, 8, .inl g1)), (hC, .inl (cG, 2, .inr (.inr (.inr (.inr (my_two c0 c1)))))), (c0, .inl (cB, 128, .inl k0)), (c1, .inl (cB, 128, .inl k1)), (hN, .inl (cZ, 8, .inl ch))] sz)) 0 0 (va_A [(hB, .inr (2, [.ref hW, .ref hC, .ref hV, .ref hN])), (hW, .inl (cB, 128, .inl wk)), (hV, .inl (cJ, 2, .inr (.inr (.inr (.inr (my_two v0 v1)))))), (v0, .inl (cI, 8, .inl g0)), (v1, .inl (cI, 8, .inl g1)), (hC, .inl (cG, 2, .inr (.inr (.inr (.inr (my_two c0 c1)))))), (c0, .inl (cB, 128, .inl k0)), (c1, .inl (cB, 128, .inl k1)), (hN, .inl (cZ, 8, .inl ch))] sz) := by
  refine my_met (cc := cX0_save) (maxL := 4) (ret9 := none) (fun A => my_Qv (dC, dI) vwCl [(cZ, .boolean), (cB, .byte), (cI, .int), (cG, .array .byte), (cJ, .array .int)] [(hB, .inr (2, [.ref hW, .ref hC, .ref hV, .ref hN])), (hW, .inl (cB, 128, .inl wk)), (hV, .inl (cJ, 2, .inr (.inr (.inr (.inr (my_two v0 v1)))))), (v0, .inl (cI, 8, .inl ((bl_save wk k0 k1 g0 g1 ch n).2.2.1))), (v1, .inl (cI, 8, .inl ((bl_save wk k0 k1 g0 g1 ch n).2.2.2.1))), (hC, .inl (cG, 2, .inr (.inr (.inr (.inr (my_two c0 c1)))))), (c0, .inl (cB, 128, .inl ((bl_save wk k0 k1 g0 g1 ch n).1))), (c1, .inl (cB, 128, .inl ((bl_save wk k0 k1 g0 g1 ch n).2.1))), (hN, .inl (cZ, 8, .inl ((bl_save wk k0 k1 g0 g1 ch n).2.2.2.2)))] A) (by decide) rfl (Nat.le_of_ble_eq_true rfl) ?_
  intro p e s m below meth c A ls hx hb hr hlocks hml hown hin hts hl hK hP hD hS hA
  have hown : s.vm.findClass RX0 = some m.cls := hown
  have hl : lv_has ls 4 [(0, .ref hB), (1, .int n)] := hl
  obtain ⟨H, hH⟩ : ∃ H, H = s.heap := ⟨_, rfl⟩
  have hP : va_P (dC, dI) vwCl [(hB, .inr (2, [.ref hW, .ref hC, .ref hV, .ref hN])), (hW, .inl (cB, 128, .inl wk)), (hV, .inl (cJ, 2, .inr (.inr (.inr (.inr (my_two v0 v1)))))), (v0, .inl (cI, 8, .inl g0)), (v1, .inl (cI, 8, .inl g1)), (hC, .inl (cG, 2, .inr (.inr (.inr (.inr (my_two c0 c1)))))), (c0, .inl (cB, 128, .inl k0)), (c1, .inl (cB, 128, .inl k1)), (hN, .inl (cZ, 8, .inl ch))] H := by rw [hH]; exact hP
  have hS : va_S A s.heap H [] := by rw [hH]; exact hS
  rw [← hH]
  refine lv_iload_n hx hb dX0_save_0 rfl (lv_at hl 1 rfl) ?_
  refine my_ci (wr := [(hB, .inr (2, [.ref hW, .ref hC, .ref hV, .ref hN])), (hW, .inl (cB, 128, .inl wk)), (hV, .inl (cJ, 2, .inr (.inr (.inr (.inr (my_two v0 v1)))))), (v0, .inl (cI, 8, .inl g0)), (v1, .inl (cI, 8, .inl g1)), (hC, .inl (cG, 2, .inr (.inr (.inr (.inr (my_two c0 c1)))))), (c0, .inl (cB, 128, .inl k0)), (c1, .inl (cB, 128, .inl k1)), (hN, .inl (cZ, 8, .inl ch))]) hP hD hS hA [] [0, 1, 2, 3, 4, 5, 6, 7, 8] (my_S (As := [.int n]) (rest := []) ⟨hx, hb, hml, hown, hts⟩ (c_Blocks_has l dC dI H.size cZ cB cI cG cJ n ) (va_cwS 1 hts gX0_save_X0_has rfl rfl rfl (by decide +kernel) ⟨Nat.le_of_ble_eq_true rfl, Nat.le_of_ble_eq_true rfl⟩) hK hP hD [] rfl (by decide) rfl hl.1 rfl (Nat.le_of_ble_eq_true rfl) dX0_save_1 ⟨Nat.zero_le _, Nat.zero_le _⟩) rfl rfl (by decide) (by decide) (fun H locs hP hD hS => ?_)
  have hP : va_P (dC, dI) vwCl [(hB, .inr (2, [.ref hW, .ref hC, .ref hV, .ref hN])), (hW, .inl (cB, 128, .inl wk)), (hV, .inl (cJ, 2, .inr (.inr (.inr (.inr (my_two v0 v1)))))), (v0, .inl (cI, 8, .inl g0)), (v1, .inl (cI, 8, .inl g1)), (hC, .inl (cG, 2, .inr (.inr (.inr (.inr (my_two c0 c1)))))), (c0, .inl (cB, 128, .inl k0)), (c1, .inl (cB, 128, .inl k1)), (hN, .inl (cZ, 8, .inl ch))] H := hP
  have hD : va_D A [(hB, .inr (2, [.ref hW, .ref hC, .ref hV, .ref hN])), (hW, .inl (cB, 128, .inl wk)), (hV, .inl (cJ, 2, .inr (.inr (.inr (.inr (my_two v0 v1)))))), (v0, .inl (cI, 8, .inl g0)), (v1, .inl (cI, 8, .inl g1)), (hC, .inl (cG, 2, .inr (.inr (.inr (.inr (my_two c0 c1)))))), (c0, .inl (cB, 128, .inl k0)), (c1, .inl (cB, 128, .inl k1)), (hN, .inl (cZ, 8, .inl ch))] := hD
  refine lv_if_eq (tgt := 65) hx hb dX0_save_4 (by decide) (fun c_1 => ?_) (fun c_1 => ?_)
  · have hP9 : va_P (dC, dI) vwCl [(hB, .inr (2, [.ref hW, .ref hC, .ref hV, .ref hN])), (hW, .inl (cB, 128, .inl wk)), (hV, .inl (cJ, 2, .inr (.inr (.inr (.inr (my_two v0 v1)))))), (v0, .inl (cI, 8, .inl g0)), (v1, .inl (cI, 8, .inl g1)), (hC, .inl (cG, 2, .inr (.inr (.inr (.inr (my_two c0 c1)))))), (c0, .inl (cB, 128, .inl k0)), (c1, .inl (cB, 128, .inl k1)), (hN, .inl (cZ, 8, .inl ch))] H := hP.sub [0, 1, 2, 3, 4, 5, 6, 7, 8] rfl
    have hD9 : va_D A [(hB, .inr (2, [.ref hW, .ref hC, .ref hV, .ref hN])), (hW, .inl (cB, 128, .inl wk)), (hV, .inl (cJ, 2, .inr (.inr (.inr (.inr (my_two v0 v1)))))), (v0, .inl (cI, 8, .inl g0)), (v1, .inl (cI, 8, .inl g1)), (hC, .inl (cG, 2, .inr (.inr (.inr (.inr (my_two c0 c1)))))), (c0, .inl (cB, 128, .inl k0)), (c1, .inl (cB, 128, .inl k1)), (hN, .inl (cZ, 8, .inl ch))] := hD.sub [0, 1, 2, 3, 4, 5, 6, 7, 8] (by decide) rfl
    have eF : bl_save wk k0 k1 g0 g1 ch n = (k0, k1, g0, g1, ch) := by simp [bl_save, c_1]
    exact my_vr hx hb hr hlocks hK (by first | (rw [eF]; exact hP9) | exact hP9) (by first | (rw [eF]; exact hD9) | exact hD9) hS dX0_save_65
  · refine lv_aload_n hx hb dX0_save_7 rfl (lv_at hl 0 rfl) ?_
    refine lv_iload_n hx hb dX0_save_8 rfl (lv_at hl 1 rfl) ?_
    refine my_ci (wr := [(hW, .inl (cB, 128, .inl wk)), (hC, .inl (cG, 2, .inr (.inr (.inr (.inr (my_two c0 c1)))))), (c0, .inl (cB, 128, .inl k0)), (c1, .inl (cB, 128, .inl k1)), (hN, .inl (cZ, 8, .inl ch))]) hP hD hS hA [0, 2, 3, 4] [1, 5, 6, 7, 8] (my_V (As := [.int n]) (rest := []) ⟨hx, hb, hml, hown, hts⟩ (c_Blocks_keptCopy l dC dI H.size cZ cB cI cG cJ hB hW hC hV hN v0 v1 g0 g1 n (bl_has_in c_1)) (cwV 1 hts gX0_save_X0_keptCopy rfl rfl rfl (by decide +kernel) ⟨Nat.le_of_ble_eq_true rfl, Nat.le_of_ble_eq_true rfl⟩) hK hP hD [0, 2, 3, 4] rfl (by decide) rfl rfl rfl hl.1 rfl (Nat.le_of_ble_eq_true rfl) dX0_save_9 ⟨Nat.zero_le _, Nat.zero_le _⟩) rfl rfl (by decide) (by decide) (fun H locs hP hD hS => ?_)
    have hP : va_P (dC, dI) vwCl [(hW, .inl (cB, 128, .inl wk)), (hC, .inl (cG, 2, .inr (.inr (.inr (.inr (my_two c0 c1)))))), (c0, .inl (cB, 128, .inl k0)), (c1, .inl (cB, 128, .inl k1)), (hN, .inl (cZ, 8, .inl ch)), (hB, .inr (2, [.ref hW, .ref hC, .ref hV, .ref hN])), (hV, .inl (cJ, 2, .inr (.inr (.inr (.inr (my_two v0 v1)))))), (v0, .inl (cI, 8, .inl g0)), (v1, .inl (cI, 8, .inl g1))] H := hP
    have hD : va_D A [(hW, .inl (cB, 128, .inl wk)), (hC, .inl (cG, 2, .inr (.inr (.inr (.inr (my_two c0 c1)))))), (c0, .inl (cB, 128, .inl k0)), (c1, .inl (cB, 128, .inl k1)), (hN, .inl (cZ, 8, .inl ch)), (hB, .inr (2, [.ref hW, .ref hC, .ref hV, .ref hN])), (hV, .inl (cJ, 2, .inr (.inr (.inr (.inr (my_two v0 v1)))))), (v0, .inl (cI, 8, .inl g0)), (v1, .inl (cI, 8, .inl g1))] := hD
    rcases bl_kc_or g0 g1 n with hk_2 | hk_2
    · rw [hk_2]
      refine lv_istore_n (lv' := [(2, .int 0), (0, .ref hB), (1, .int n)]) hx hb dX0_save_12 rfl hl (by decide) rfl (fun ls hl => ?_)
      refine lv_iconst (v := 1) hx hb dX0_save_13 (by decide) ?_
      refine lv_iload_n hx hb dX0_save_14 rfl (lv_at hl 0 rfl) ?_
      refine lv_isub hx hb dX0_save_15 ?_
      refine lv_istore_n (lv' := [(3, .int (1 - 0)), (2, .int 0), (0, .ref hB), (1, .int n)]) hx hb dX0_save_16 rfl hl (by decide) rfl (fun ls hl => ?_)
      refine lv_aload_n hx hb dX0_save_17 rfl (lv_at hl 2 rfl) ?_
      refine va_get (D := (dC, dI)) (ci := 2) (v := .ref hW) (C := RX0) (T := TX0) (N := 4) hx hb hts (by decide +kernel) hown hK hP 5 rfl rfl 0 (by decide) (hts (.fieldLink RX0 11 "StartSleep$Blocks" "working" "[B") (by decide +kernel)) (fun _ h9 => h9) rfl dX0_save_18 ?_
      refine lv_iload_n hx hb dX0_save_21 rfl (lv_at hl 3 rfl) ?_
      refine lv_bipush (v := 16) hx hb dX0_save_22 (by decide) ?_
      refine lv_imul hx hb dX0_save_24 ?_
      refine lv_aload_n hx hb dX0_save_25 rfl (lv_at hl 2 rfl) ?_
      refine va_get (D := (dC, dI)) (ci := 2) (v := .ref hC) (C := RX0) (T := TX0) (N := 4) hx hb hts (by decide +kernel) hown hK hP 5 rfl rfl 1 (by decide) (hts (.fieldLink RX0 17 "StartSleep$Blocks" "copies" "[[B") (by decide +kernel)) (fun _ h9 => h9) rfl dX0_save_26 ?_
      refine lv_iload_n hx hb dX0_save_29 rfl (lv_at hl 0 rfl) ?_
      refine my_ald2 (v := c1) hx hb hK hP 1 3 rfl rfl (by unfold vp_in; decide) rfl dX0_save_30 ?_
      refine lv_iload_n hx hb dX0_save_31 rfl (lv_at hl 3 rfl) ?_
      refine lv_bipush (v := 16) hx hb dX0_save_32 (by decide) ?_
      refine lv_imul hx hb dX0_save_34 ?_
      refine lv_bipush (v := 16) hx hb dX0_save_35 (by decide) ?_
      refine va_copyi hx hb (hml.trans hl.1.symm) hown (hts (.methodLink RX0 40 arraycopyName) (by decide +kernel)) (hts (.native arraycopyName) (by decide +kernel)) (hts (.static arraycopyName) (by decide +kernel)) (hts (.initialized "java/lang/System") (by decide +kernel)) hK hP hD hS 0 3 1 1 rfl rfl rfl rfl rfl (bl_n0 c_1) (bl_n0 c_1) (by decide) (bl_n128 c_1) (bl_n128 c_1) (fun i _ => my_by_fit hw _) (Nat.le_of_ble_eq_true rfl) (Nat.le_of_ble_eq_true rfl) dX0_save_37 (fun H locs hP hD hS => ?_)
      have hP : va_P (dC, dI) vwCl [(hW, .inl (cB, 128, .inl wk)), (hC, .inl (cG, 2, .inr (.inr (.inr (.inr (my_two c0 c1)))))), (c0, .inl (cB, 128, .inl k0)), (c1, .inl (cB, 128, .inl (bl_row wk k1 n))), (hN, .inl (cZ, 8, .inl ch)), (hB, .inr (2, [.ref hW, .ref hC, .ref hV, .ref hN])), (hV, .inl (cJ, 2, .inr (.inr (.inr (.inr (my_two v0 v1)))))), (v0, .inl (cI, 8, .inl g0)), (v1, .inl (cI, 8, .inl g1))] H := hP
      have hD : va_D A [(hW, .inl (cB, 128, .inl wk)), (hC, .inl (cG, 2, .inr (.inr (.inr (.inr (my_two c0 c1)))))), (c0, .inl (cB, 128, .inl k0)), (c1, .inl (cB, 128, .inl (bl_row wk k1 n))), (hN, .inl (cZ, 8, .inl ch)), (hB, .inr (2, [.ref hW, .ref hC, .ref hV, .ref hN])), (hV, .inl (cJ, 2, .inr (.inr (.inr (.inr (my_two v0 v1)))))), (v0, .inl (cI, 8, .inl g0)), (v1, .inl (cI, 8, .inl g1))] := hD
      refine lv_aload_n hx hb dX0_save_40 rfl (lv_at hl 2 rfl) ?_
      refine va_get (D := (dC, dI)) (ci := 2) (v := .ref hV) (C := RX0) (T := TX0) (N := 4) hx hb hts (by decide +kernel) hown hK hP 5 rfl rfl 2 (by decide) (hts (.fieldLink RX0 22 "StartSleep$Blocks" "versions" "[[I") (by decide +kernel)) (fun _ h9 => h9) rfl dX0_save_41 ?_
      refine lv_iload_n hx hb dX0_save_44 rfl (lv_at hl 0 rfl) ?_
      refine my_ald2 (v := v1) hx hb hK hP 6 4 rfl rfl (by unfold vp_in; decide) rfl dX0_save_45 ?_
      refine lv_iload_n hx hb dX0_save_46 rfl (lv_at hl 3 rfl) ?_
      refine lv_aload_n hx hb dX0_save_47 rfl (lv_at hl 2 rfl) ?_
      refine va_get (D := (dC, dI)) (ci := 2) (v := .ref hV) (C := RX0) (T := TX0) (N := 4) hx hb hts (by decide +kernel) hown hK hP 5 rfl rfl 2 (by decide) (hts (.fieldLink RX0 22 "StartSleep$Blocks" "versions" "[[I") (by decide +kernel)) (fun _ h9 => h9) rfl dX0_save_48 ?_
      refine lv_iload_n hx hb dX0_save_51 rfl (lv_at hl 1 rfl) ?_
      refine my_ald2 (v := v0) hx hb hK hP 6 4 rfl rfl (by unfold vp_in; decide) rfl dX0_save_52 ?_
      refine lv_iload_n hx hb dX0_save_53 rfl (lv_at hl 3 rfl) ?_
      refine va_iald hx hb hK hP 7 2 rfl rfl (bl_has_in c_1) dX0_save_54 ?_
      refine lv_iconst (v := 1) hx hb dX0_save_55 (by decide) ?_
      refine lv_iadd hx hb dX0_save_56 ?_
      refine va_iast hx hb hK hP hD hS 8 2 rfl rfl (bl_has_in c_1) dX0_save_57 (fun H locs hP hD hS => ?_)
      have hP : va_P (dC, dI) vwCl [(hW, .inl (cB, 128, .inl wk)), (hC, .inl (cG, 2, .inr (.inr (.inr (.inr (my_two c0 c1)))))), (c0, .inl (cB, 128, .inl k0)), (c1, .inl (cB, 128, .inl (bl_row wk k1 n))), (hN, .inl (cZ, 8, .inl ch)), (hB, .inr (2, [.ref hW, .ref hC, .ref hV, .ref hN])), (hV, .inl (cJ, 2, .inr (.inr (.inr (.inr (my_two v0 v1)))))), (v0, .inl (cI, 8, .inl g0)), (v1, .inl (cI, 8, .inl (upd g1 (n.toNatClampNeg) ((g0 (n.toNatClampNeg)) + 1))))] H := hP
      have hD : va_D A [(hW, .inl (cB, 128, .inl wk)), (hC, .inl (cG, 2, .inr (.inr (.inr (.inr (my_two c0 c1)))))), (c0, .inl (cB, 128, .inl k0)), (c1, .inl (cB, 128, .inl (bl_row wk k1 n))), (hN, .inl (cZ, 8, .inl ch)), (hB, .inr (2, [.ref hW, .ref hC, .ref hV, .ref hN])), (hV, .inl (cJ, 2, .inr (.inr (.inr (.inr (my_two v0 v1)))))), (v0, .inl (cI, 8, .inl g0)), (v1, .inl (cI, 8, .inl (upd g1 (n.toNatClampNeg) ((g0 (n.toNatClampNeg)) + 1))))] := hD
      refine lv_aload_n hx hb dX0_save_58 rfl (lv_at hl 2 rfl) ?_
      refine va_get (D := (dC, dI)) (ci := 2) (v := .ref hN) (C := RX0) (T := TX0) (N := 4) hx hb hts (by decide +kernel) hown hK hP 5 rfl rfl 3 (by decide) (hts (.fieldLink RX0 25 "StartSleep$Blocks" "changed" "[Z") (by decide +kernel)) (fun _ h9 => h9) rfl dX0_save_59 ?_
      refine lv_iload_n hx hb dX0_save_62 rfl (lv_at hl 3 rfl) ?_
      refine lv_iconst (v := 0) hx hb dX0_save_63 (by decide) ?_
      refine va_zast hx hb hK hP hD hS 4 0 rfl rfl (bl_has_in c_1) dX0_save_64 (fun H locs hP hD hS => ?_)
      have hP : va_P (dC, dI) vwCl [(hW, .inl (cB, 128, .inl wk)), (hC, .inl (cG, 2, .inr (.inr (.inr (.inr (my_two c0 c1)))))), (c0, .inl (cB, 128, .inl k0)), (c1, .inl (cB, 128, .inl (bl_row wk k1 n))), (hN, .inl (cZ, 8, .inl (upd ch (n.toNatClampNeg) (vp_nar .boolean 0)))), (hB, .inr (2, [.ref hW, .ref hC, .ref hV, .ref hN])), (hV, .inl (cJ, 2, .inr (.inr (.inr (.inr (my_two v0 v1)))))), (v0, .inl (cI, 8, .inl g0)), (v1, .inl (cI, 8, .inl (upd g1 (n.toNatClampNeg) ((g0 (n.toNatClampNeg)) + 1))))] H := hP
      have hD : va_D A [(hW, .inl (cB, 128, .inl wk)), (hC, .inl (cG, 2, .inr (.inr (.inr (.inr (my_two c0 c1)))))), (c0, .inl (cB, 128, .inl k0)), (c1, .inl (cB, 128, .inl (bl_row wk k1 n))), (hN, .inl (cZ, 8, .inl (upd ch (n.toNatClampNeg) (vp_nar .boolean 0)))), (hB, .inr (2, [.ref hW, .ref hC, .ref hV, .ref hN])), (hV, .inl (cJ, 2, .inr (.inr (.inr (.inr (my_two v0 v1)))))), (v0, .inl (cI, 8, .inl g0)), (v1, .inl (cI, 8, .inl (upd g1 (n.toNatClampNeg) ((g0 (n.toNatClampNeg)) + 1))))] := hD
      have hP9 : va_P (dC, dI) vwCl [(hB, .inr (2, [.ref hW, .ref hC, .ref hV, .ref hN])), (hW, .inl (cB, 128, .inl wk)), (hV, .inl (cJ, 2, .inr (.inr (.inr (.inr (my_two v0 v1)))))), (v0, .inl (cI, 8, .inl g0)), (v1, .inl (cI, 8, .inl (upd g1 (n.toNatClampNeg) ((g0 (n.toNatClampNeg)) + 1)))), (hC, .inl (cG, 2, .inr (.inr (.inr (.inr (my_two c0 c1)))))), (c0, .inl (cB, 128, .inl k0)), (c1, .inl (cB, 128, .inl (bl_row wk k1 n))), (hN, .inl (cZ, 8, .inl (upd ch (n.toNatClampNeg) (vp_nar .boolean 0))))] H := hP.sub [5, 0, 6, 7, 8, 1, 2, 3, 4] rfl
      have hD9 : va_D A [(hB, .inr (2, [.ref hW, .ref hC, .ref hV, .ref hN])), (hW, .inl (cB, 128, .inl wk)), (hV, .inl (cJ, 2, .inr (.inr (.inr (.inr (my_two v0 v1)))))), (v0, .inl (cI, 8, .inl g0)), (v1, .inl (cI, 8, .inl (upd g1 (n.toNatClampNeg) ((g0 (n.toNatClampNeg)) + 1)))), (hC, .inl (cG, 2, .inr (.inr (.inr (.inr (my_two c0 c1)))))), (c0, .inl (cB, 128, .inl k0)), (c1, .inl (cB, 128, .inl (bl_row wk k1 n))), (hN, .inl (cZ, 8, .inl (upd ch (n.toNatClampNeg) (vp_nar .boolean 0))))] := hD.sub [5, 0, 6, 7, 8, 1, 2, 3, 4] (by decide) rfl
      have eF : bl_save wk k0 k1 g0 g1 ch n = (k0, (bl_row wk k1 n), g0, (upd g1 (n.toNatClampNeg) ((g0 (n.toNatClampNeg)) + 1)), (upd ch (n.toNatClampNeg) (vp_nar .boolean 0))) := by simp [bl_save, c_1, hk_2]
      exact my_vr hx hb hr hlocks hK (by first | (rw [eF]; exact hP9) | exact hP9) (by first | (rw [eF]; exact hD9) | exact hD9) hS dX0_save_65
    · rw [hk_2]
      refine lv_istore_n (lv' := [(2, .int 1), (0, .ref hB), (1, .int n)]) hx hb dX0_save_12 rfl hl (by decide) rfl (fun ls hl => ?_)
      refine lv_iconst (v := 1) hx hb dX0_save_13 (by decide) ?_
      refine lv_iload_n hx hb dX0_save_14 rfl (lv_at hl 0 rfl) ?_
      refine lv_isub hx hb dX0_save_15 ?_
      refine lv_istore_n (lv' := [(3, .int (1 - 1)), (2, .int 1), (0, .ref hB), (1, .int n)]) hx hb dX0_save_16 rfl hl (by decide) rfl (fun ls hl => ?_)
      refine lv_aload_n hx hb dX0_save_17 rfl (lv_at hl 2 rfl) ?_
      refine va_get (D := (dC, dI)) (ci := 2) (v := .ref hW) (C := RX0) (T := TX0) (N := 4) hx hb hts (by decide +kernel) hown hK hP 5 rfl rfl 0 (by decide) (hts (.fieldLink RX0 11 "StartSleep$Blocks" "working" "[B") (by decide +kernel)) (fun _ h9 => h9) rfl dX0_save_18 ?_
      refine lv_iload_n hx hb dX0_save_21 rfl (lv_at hl 3 rfl) ?_
      refine lv_bipush (v := 16) hx hb dX0_save_22 (by decide) ?_
      refine lv_imul hx hb dX0_save_24 ?_
      refine lv_aload_n hx hb dX0_save_25 rfl (lv_at hl 2 rfl) ?_
      refine va_get (D := (dC, dI)) (ci := 2) (v := .ref hC) (C := RX0) (T := TX0) (N := 4) hx hb hts (by decide +kernel) hown hK hP 5 rfl rfl 1 (by decide) (hts (.fieldLink RX0 17 "StartSleep$Blocks" "copies" "[[B") (by decide +kernel)) (fun _ h9 => h9) rfl dX0_save_26 ?_
      refine lv_iload_n hx hb dX0_save_29 rfl (lv_at hl 0 rfl) ?_
      refine my_ald2 (v := c0) hx hb hK hP 1 3 rfl rfl (by unfold vp_in; decide) rfl dX0_save_30 ?_
      refine lv_iload_n hx hb dX0_save_31 rfl (lv_at hl 3 rfl) ?_
      refine lv_bipush (v := 16) hx hb dX0_save_32 (by decide) ?_
      refine lv_imul hx hb dX0_save_34 ?_
      refine lv_bipush (v := 16) hx hb dX0_save_35 (by decide) ?_
      refine va_copyi hx hb (hml.trans hl.1.symm) hown (hts (.methodLink RX0 40 arraycopyName) (by decide +kernel)) (hts (.native arraycopyName) (by decide +kernel)) (hts (.static arraycopyName) (by decide +kernel)) (hts (.initialized "java/lang/System") (by decide +kernel)) hK hP hD hS 0 2 1 1 rfl rfl rfl rfl rfl (bl_n0 c_1) (bl_n0 c_1) (by decide) (bl_n128 c_1) (bl_n128 c_1) (fun i _ => my_by_fit hw _) (Nat.le_of_ble_eq_true rfl) (Nat.le_of_ble_eq_true rfl) dX0_save_37 (fun H locs hP hD hS => ?_)
      have hP : va_P (dC, dI) vwCl [(hW, .inl (cB, 128, .inl wk)), (hC, .inl (cG, 2, .inr (.inr (.inr (.inr (my_two c0 c1)))))), (c0, .inl (cB, 128, .inl (bl_row wk k0 n))), (c1, .inl (cB, 128, .inl k1)), (hN, .inl (cZ, 8, .inl ch)), (hB, .inr (2, [.ref hW, .ref hC, .ref hV, .ref hN])), (hV, .inl (cJ, 2, .inr (.inr (.inr (.inr (my_two v0 v1)))))), (v0, .inl (cI, 8, .inl g0)), (v1, .inl (cI, 8, .inl g1))] H := hP
      have hD : va_D A [(hW, .inl (cB, 128, .inl wk)), (hC, .inl (cG, 2, .inr (.inr (.inr (.inr (my_two c0 c1)))))), (c0, .inl (cB, 128, .inl (bl_row wk k0 n))), (c1, .inl (cB, 128, .inl k1)), (hN, .inl (cZ, 8, .inl ch)), (hB, .inr (2, [.ref hW, .ref hC, .ref hV, .ref hN])), (hV, .inl (cJ, 2, .inr (.inr (.inr (.inr (my_two v0 v1)))))), (v0, .inl (cI, 8, .inl g0)), (v1, .inl (cI, 8, .inl g1))] := hD
      refine lv_aload_n hx hb dX0_save_40 rfl (lv_at hl 2 rfl) ?_
      refine va_get (D := (dC, dI)) (ci := 2) (v := .ref hV) (C := RX0) (T := TX0) (N := 4) hx hb hts (by decide +kernel) hown hK hP 5 rfl rfl 2 (by decide) (hts (.fieldLink RX0 22 "StartSleep$Blocks" "versions" "[[I") (by decide +kernel)) (fun _ h9 => h9) rfl dX0_save_41 ?_
      refine lv_iload_n hx hb dX0_save_44 rfl (lv_at hl 0 rfl) ?_
      refine my_ald2 (v := v0) hx hb hK hP 6 4 rfl rfl (by unfold vp_in; decide) rfl dX0_save_45 ?_
      refine lv_iload_n hx hb dX0_save_46 rfl (lv_at hl 3 rfl) ?_
      refine lv_aload_n hx hb dX0_save_47 rfl (lv_at hl 2 rfl) ?_
      refine va_get (D := (dC, dI)) (ci := 2) (v := .ref hV) (C := RX0) (T := TX0) (N := 4) hx hb hts (by decide +kernel) hown hK hP 5 rfl rfl 2 (by decide) (hts (.fieldLink RX0 22 "StartSleep$Blocks" "versions" "[[I") (by decide +kernel)) (fun _ h9 => h9) rfl dX0_save_48 ?_
      refine lv_iload_n hx hb dX0_save_51 rfl (lv_at hl 1 rfl) ?_
      refine my_ald2 (v := v1) hx hb hK hP 6 4 rfl rfl (by unfold vp_in; decide) rfl dX0_save_52 ?_
      refine lv_iload_n hx hb dX0_save_53 rfl (lv_at hl 3 rfl) ?_
      refine va_iald hx hb hK hP 8 2 rfl rfl (bl_has_in c_1) dX0_save_54 ?_
      refine lv_iconst (v := 1) hx hb dX0_save_55 (by decide) ?_
      refine lv_iadd hx hb dX0_save_56 ?_
      refine va_iast hx hb hK hP hD hS 7 2 rfl rfl (bl_has_in c_1) dX0_save_57 (fun H locs hP hD hS => ?_)
      have hP : va_P (dC, dI) vwCl [(hW, .inl (cB, 128, .inl wk)), (hC, .inl (cG, 2, .inr (.inr (.inr (.inr (my_two c0 c1)))))), (c0, .inl (cB, 128, .inl (bl_row wk k0 n))), (c1, .inl (cB, 128, .inl k1)), (hN, .inl (cZ, 8, .inl ch)), (hB, .inr (2, [.ref hW, .ref hC, .ref hV, .ref hN])), (hV, .inl (cJ, 2, .inr (.inr (.inr (.inr (my_two v0 v1)))))), (v0, .inl (cI, 8, .inl (upd g0 (n.toNatClampNeg) ((g1 (n.toNatClampNeg)) + 1)))), (v1, .inl (cI, 8, .inl g1))] H := hP
      have hD : va_D A [(hW, .inl (cB, 128, .inl wk)), (hC, .inl (cG, 2, .inr (.inr (.inr (.inr (my_two c0 c1)))))), (c0, .inl (cB, 128, .inl (bl_row wk k0 n))), (c1, .inl (cB, 128, .inl k1)), (hN, .inl (cZ, 8, .inl ch)), (hB, .inr (2, [.ref hW, .ref hC, .ref hV, .ref hN])), (hV, .inl (cJ, 2, .inr (.inr (.inr (.inr (my_two v0 v1)))))), (v0, .inl (cI, 8, .inl (upd g0 (n.toNatClampNeg) ((g1 (n.toNatClampNeg)) + 1)))), (v1, .inl (cI, 8, .inl g1))] := hD
      refine lv_aload_n hx hb dX0_save_58 rfl (lv_at hl 2 rfl) ?_
      refine va_get (D := (dC, dI)) (ci := 2) (v := .ref hN) (C := RX0) (T := TX0) (N := 4) hx hb hts (by decide +kernel) hown hK hP 5 rfl rfl 3 (by decide) (hts (.fieldLink RX0 25 "StartSleep$Blocks" "changed" "[Z") (by decide +kernel)) (fun _ h9 => h9) rfl dX0_save_59 ?_
      refine lv_iload_n hx hb dX0_save_62 rfl (lv_at hl 3 rfl) ?_
      refine lv_iconst (v := 0) hx hb dX0_save_63 (by decide) ?_
      refine va_zast hx hb hK hP hD hS 4 0 rfl rfl (bl_has_in c_1) dX0_save_64 (fun H locs hP hD hS => ?_)
      have hP : va_P (dC, dI) vwCl [(hW, .inl (cB, 128, .inl wk)), (hC, .inl (cG, 2, .inr (.inr (.inr (.inr (my_two c0 c1)))))), (c0, .inl (cB, 128, .inl (bl_row wk k0 n))), (c1, .inl (cB, 128, .inl k1)), (hN, .inl (cZ, 8, .inl (upd ch (n.toNatClampNeg) (vp_nar .boolean 0)))), (hB, .inr (2, [.ref hW, .ref hC, .ref hV, .ref hN])), (hV, .inl (cJ, 2, .inr (.inr (.inr (.inr (my_two v0 v1)))))), (v0, .inl (cI, 8, .inl (upd g0 (n.toNatClampNeg) ((g1 (n.toNatClampNeg)) + 1)))), (v1, .inl (cI, 8, .inl g1))] H := hP
      have hD : va_D A [(hW, .inl (cB, 128, .inl wk)), (hC, .inl (cG, 2, .inr (.inr (.inr (.inr (my_two c0 c1)))))), (c0, .inl (cB, 128, .inl (bl_row wk k0 n))), (c1, .inl (cB, 128, .inl k1)), (hN, .inl (cZ, 8, .inl (upd ch (n.toNatClampNeg) (vp_nar .boolean 0)))), (hB, .inr (2, [.ref hW, .ref hC, .ref hV, .ref hN])), (hV, .inl (cJ, 2, .inr (.inr (.inr (.inr (my_two v0 v1)))))), (v0, .inl (cI, 8, .inl (upd g0 (n.toNatClampNeg) ((g1 (n.toNatClampNeg)) + 1)))), (v1, .inl (cI, 8, .inl g1))] := hD
      have hP9 : va_P (dC, dI) vwCl [(hB, .inr (2, [.ref hW, .ref hC, .ref hV, .ref hN])), (hW, .inl (cB, 128, .inl wk)), (hV, .inl (cJ, 2, .inr (.inr (.inr (.inr (my_two v0 v1)))))), (v0, .inl (cI, 8, .inl (upd g0 (n.toNatClampNeg) ((g1 (n.toNatClampNeg)) + 1)))), (v1, .inl (cI, 8, .inl g1)), (hC, .inl (cG, 2, .inr (.inr (.inr (.inr (my_two c0 c1)))))), (c0, .inl (cB, 128, .inl (bl_row wk k0 n))), (c1, .inl (cB, 128, .inl k1)), (hN, .inl (cZ, 8, .inl (upd ch (n.toNatClampNeg) (vp_nar .boolean 0))))] H := hP.sub [5, 0, 6, 7, 8, 1, 2, 3, 4] rfl
      have hD9 : va_D A [(hB, .inr (2, [.ref hW, .ref hC, .ref hV, .ref hN])), (hW, .inl (cB, 128, .inl wk)), (hV, .inl (cJ, 2, .inr (.inr (.inr (.inr (my_two v0 v1)))))), (v0, .inl (cI, 8, .inl (upd g0 (n.toNatClampNeg) ((g1 (n.toNatClampNeg)) + 1)))), (v1, .inl (cI, 8, .inl g1)), (hC, .inl (cG, 2, .inr (.inr (.inr (.inr (my_two c0 c1)))))), (c0, .inl (cB, 128, .inl (bl_row wk k0 n))), (c1, .inl (cB, 128, .inl k1)), (hN, .inl (cZ, 8, .inl (upd ch (n.toNatClampNeg) (vp_nar .boolean 0))))] := hD.sub [5, 0, 6, 7, 8, 1, 2, 3, 4] (by decide) rfl
      have eF : bl_save wk k0 k1 g0 g1 ch n = ((bl_row wk k0 n), k1, (upd g0 (n.toNatClampNeg) ((g1 (n.toNatClampNeg)) + 1)), g1, (upd ch (n.toNatClampNeg) (vp_nar .boolean 0))) := by simp [bl_save, c_1, hk_2]
      exact my_vr hx hb hr hlocks hK (by first | (rw [eF]; exact hP9) | exact hP9) (by first | (rw [eF]; exact hD9) | exact hD9) hS dX0_save_65
set_option maxHeartbeats 4000000 in
set_option maxRecDepth 100000 in
theorem c_Blocks_load (l : Launch) (dC : Nat → ClassId) (dI : Nat → Nat → Nat) (sz : Nat) (cZ : ClassId) (cB : ClassId) (cI : ClassId) (cG : ClassId) (cJ : ClassId) (hB : Nat) (hW : Nat) (hC : Nat) (hV : Nat) (hN : Nat) (wk : Nat → Int32) (v0 : Nat) (v1 : Nat) (g0 : Nat → Int32) (g1 : Nat → Int32) (c0 : Nat) (c1 : Nat) (k0 : Nat → Int32) (k1 : Nat → Int32) (ch : Nat → Int32) (h0 : my_by k0) (h1 : my_by k1) : Met l yX0_load wsX0_load ({ frames := 2, cells := 0, slots := 0, locals := 100 }) (va_Pc [.ref hB] (my_P (dC, dI) vwCl [(cZ, .boolean), (cB, .byte), (cI, .int), (cG, .array .byte), (cJ, .array .int)] sz [(hB, .inr (2, [.ref hW, .ref hC, .ref hV, .ref hN])), (hW, .inl (cB, 128, .inl wk)), (hV, .inl (cJ, 2, .inr (.inr (.inr (.inr (my_two v0 v1)))))), (v0, .inl (cI, 8, .inl g0)), (v1, .inl (cI, 8, .inl g1)), (hC, .inl (cG, 2, .inr (.inr (.inr (.inr (my_two c0 c1)))))), (c0, .inl (cB, 128, .inl k0)), (c1, .inl (cB, 128, .inl k1)), (hN, .inl (cZ, 8, .inl ch))])) (my_Qv (dC, dI) vwCl [(cZ, .boolean), (cB, .byte), (cI, .int), (cG, .array .byte), (cJ, .array .int)] [(hB, .inr (2, [.ref hW, .ref hC, .ref hV, .ref hN])), (hW, .inl (cB, 128, .inl ((bl_load k0 k1 g0 g1 8 0 wk ch).1))), (hV, .inl (cJ, 2, .inr (.inr (.inr (.inr (my_two v0 v1)))))), (v0, .inl (cI, 8, .inl g0)), (v1, .inl (cI, 8, .inl g1)), (hC, .inl (cG, 2, .inr (.inr (.inr (.inr (my_two c0 c1)))))), (c0, .inl (cB, 128, .inl k0)), (c1, .inl (cB, 128, .inl k1)), (hN, .inl (cZ, 8, .inl ((bl_load k0 k1 g0 g1 8 0 wk ch).2)))] (va_A [(hB, .inr (2, [.ref hW, .ref hC, .ref hV, .ref hN])), (hW, .inl (cB, 128, .inl wk)), (hV, .inl (cJ, 2, .inr (.inr (.inr (.inr (my_two v0 v1)))))), (v0, .inl (cI, 8, .inl g0)), (v1, .inl (cI, 8, .inl g1)), (hC, .inl (cG, 2, .inr (.inr (.inr (.inr (my_two c0 c1)))))), (c0, .inl (cB, 128, .inl k0)), (c1, .inl (cB, 128, .inl k1)), (hN, .inl (cZ, 8, .inl ch))] sz)) 0 0 (va_A [(hB, .inr (2, [.ref hW, .ref hC, .ref hV, .ref hN])), (hW, .inl (cB, 128, .inl wk)), (hV, .inl (cJ, 2, .inr (.inr (.inr (.inr (my_two v0 v1)))))), (v0, .inl (cI, 8, .inl g0)), (v1, .inl (cI, 8, .inl g1)), (hC, .inl (cG, 2, .inr (.inr (.inr (.inr (my_two c0 c1)))))), (c0, .inl (cB, 128, .inl k0)), (c1, .inl (cB, 128, .inl k1)), (hN, .inl (cZ, 8, .inl ch))] sz) := by
  refine my_met (cc := cX0_load) (maxL := 2) (ret9 := none) (fun A => my_Qv (dC, dI) vwCl [(cZ, .boolean), (cB, .byte), (cI, .int), (cG, .array .byte), (cJ, .array .int)] [(hB, .inr (2, [.ref hW, .ref hC, .ref hV, .ref hN])), (hW, .inl (cB, 128, .inl ((bl_load k0 k1 g0 g1 8 0 wk ch).1))), (hV, .inl (cJ, 2, .inr (.inr (.inr (.inr (my_two v0 v1)))))), (v0, .inl (cI, 8, .inl g0)), (v1, .inl (cI, 8, .inl g1)), (hC, .inl (cG, 2, .inr (.inr (.inr (.inr (my_two c0 c1)))))), (c0, .inl (cB, 128, .inl k0)), (c1, .inl (cB, 128, .inl k1)), (hN, .inl (cZ, 8, .inl ((bl_load k0 k1 g0 g1 8 0 wk ch).2)))] A) (by decide) rfl (Nat.le_of_ble_eq_true rfl) ?_
  intro p e s m below meth c A ls hx hb hr hlocks hml hown hin hts hl hK hP hD hS hA
  have hown : s.vm.findClass RX0 = some m.cls := hown
  have hl : lv_has ls 2 [(0, .ref hB)] := hl
  obtain ⟨H, hH⟩ : ∃ H, H = s.heap := ⟨_, rfl⟩
  have hP : va_P (dC, dI) vwCl [(hB, .inr (2, [.ref hW, .ref hC, .ref hV, .ref hN])), (hW, .inl (cB, 128, .inl wk)), (hV, .inl (cJ, 2, .inr (.inr (.inr (.inr (my_two v0 v1)))))), (v0, .inl (cI, 8, .inl g0)), (v1, .inl (cI, 8, .inl g1)), (hC, .inl (cG, 2, .inr (.inr (.inr (.inr (my_two c0 c1)))))), (c0, .inl (cB, 128, .inl k0)), (c1, .inl (cB, 128, .inl k1)), (hN, .inl (cZ, 8, .inl ch))] H := by rw [hH]; exact hP
  have hS : va_S A s.heap H [] := by rw [hH]; exact hS
  rw [← hH]
  refine lv_iconst (v := 0) hx hb dX0_load_0 (by decide) ?_
  refine lv_istore_n (lv' := [(1, .int 0), (0, .ref hB)]) hx hb dX0_load_1 rfl hl (by decide) rfl (fun ls hl => ?_)
  have loop : ∀ (k i : Nat) (w_ : Nat → Int32) (h_ : Nat → Int32), (i + k = 8) → (bl_load k0 k1 g0 g1 k i w_ h_ = bl_load k0 k1 g0 g1 8 0 wk ch) → ∀ (H : Heap) (locs : List Loc) (ls : Array Slot), va_P (dC, dI) vwCl [(hB, .inr (2, [.ref hW, .ref hC, .ref hV, .ref hN])), (hW, .inl (cB, 128, .inl w_)), (hV, .inl (cJ, 2, .inr (.inr (.inr (.inr (my_two v0 v1)))))), (v0, .inl (cI, 8, .inl g0)), (v1, .inl (cI, 8, .inl g1)), (hC, .inl (cG, 2, .inr (.inr (.inr (.inr (my_two c0 c1)))))), (c0, .inl (cB, 128, .inl k0)), (c1, .inl (cB, 128, .inl k1)), (hN, .inl (cZ, 8, .inl h_))] H → va_D A [(hB, .inr (2, [.ref hW, .ref hC, .ref hV, .ref hN])), (hW, .inl (cB, 128, .inl w_)), (hV, .inl (cJ, 2, .inr (.inr (.inr (.inr (my_two v0 v1)))))), (v0, .inl (cI, 8, .inl g0)), (v1, .inl (cI, 8, .inl g1)), (hC, .inl (cG, 2, .inr (.inr (.inr (.inr (my_two c0 c1)))))), (c0, .inl (cB, 128, .inl k0)), (c1, .inl (cB, 128, .inl k1)), (hN, .inl (cZ, 8, .inl h_))] → va_S A s.heap H locs → lv_has ls 2 [(0, .ref hB), (1, .int (nI i))] → W p l e (headSpec wsX0_load ({ frames := 2, cells := 0, slots := 0, locals := 100 })).room s m ([.ref hB] : List Value).toArray below meth c H locs 0 0 (MQ below (my_Qv (dC, dI) vwCl [(cZ, .boolean), (cB, .byte), (cI, .int), (cG, .array .byte), (cJ, .array .int)] [(hB, .inr (2, [.ref hW, .ref hC, .ref hV, .ref hN])), (hW, .inl (cB, 128, .inl ((bl_load k0 k1 g0 g1 8 0 wk ch).1))), (hV, .inl (cJ, 2, .inr (.inr (.inr (.inr (my_two v0 v1)))))), (v0, .inl (cI, 8, .inl g0)), (v1, .inl (cI, 8, .inl g1)), (hC, .inl (cG, 2, .inr (.inr (.inr (.inr (my_two c0 c1)))))), (c0, .inl (cB, 128, .inl k0)), (c1, .inl (cB, 128, .inl k1)), (hN, .inl (cZ, 8, .inl ((bl_load k0 k1 g0 g1 8 0 wk ch).2)))] A) ([.ref hB] : List Value).toArray s 0 0 A) (F0 m 2 ls []) := by
    intro k
    induction k with
    | zero =>
      intro i w_ h_ hn hI H locs ls hP hD hS hl
      refine lv_iload_n hx hb dX0_load_2 rfl (lv_at hl 1 rfl) ?_
      refine lv_bipush (v := 8) hx hb dX0_load_3 (by decide) ?_
      refine lv_icmp_ge (tgt := 48) hx hb dX0_load_5 (by decide) (fun c_1 => ?_) (fun c_1 => absurd (by rw [show i = 8 by omega]; decide) c_1)
      have hP9 : va_P (dC, dI) vwCl [(hB, .inr (2, [.ref hW, .ref hC, .ref hV, .ref hN])), (hW, .inl (cB, 128, .inl w_)), (hV, .inl (cJ, 2, .inr (.inr (.inr (.inr (my_two v0 v1)))))), (v0, .inl (cI, 8, .inl g0)), (v1, .inl (cI, 8, .inl g1)), (hC, .inl (cG, 2, .inr (.inr (.inr (.inr (my_two c0 c1)))))), (c0, .inl (cB, 128, .inl k0)), (c1, .inl (cB, 128, .inl k1)), (hN, .inl (cZ, 8, .inl h_))] H := hP.sub [0, 1, 2, 3, 4, 5, 6, 7, 8] rfl
      have hD9 : va_D A [(hB, .inr (2, [.ref hW, .ref hC, .ref hV, .ref hN])), (hW, .inl (cB, 128, .inl w_)), (hV, .inl (cJ, 2, .inr (.inr (.inr (.inr (my_two v0 v1)))))), (v0, .inl (cI, 8, .inl g0)), (v1, .inl (cI, 8, .inl g1)), (hC, .inl (cG, 2, .inr (.inr (.inr (.inr (my_two c0 c1)))))), (c0, .inl (cB, 128, .inl k0)), (c1, .inl (cB, 128, .inl k1)), (hN, .inl (cZ, 8, .inl h_))] := hD.sub [0, 1, 2, 3, 4, 5, 6, 7, 8] (by decide) rfl
      have eF : bl_load k0 k1 g0 g1 8 0 wk ch = (w_, h_) := hI.symm
      exact my_vr hx hb hr hlocks hK (by first | (rw [eF]; exact hP9) | exact hP9) (by first | (rw [eF]; exact hD9) | exact hD9) hS dX0_load_48
    | succ k ih =>
      intro i w_ h_ hn hI H locs ls hP hD hS hl
      refine lv_iload_n hx hb dX0_load_2 rfl (lv_at hl 1 rfl) ?_
      refine lv_bipush (v := 8) hx hb dX0_load_3 (by decide) ?_
      refine lv_icmp_ge (tgt := 48) hx hb dX0_load_5 (by decide) (fun c_2 => absurd c_2 (nI_ge (b := 8) (by omega) (by decide))) (fun c_2 => ?_)
      refine lv_aload_n hx hb dX0_load_8 rfl (lv_at hl 0 rfl) ?_
      refine va_get (D := (dC, dI)) (ci := 2) (v := .ref hC) (C := RX0) (T := TX0) (N := 4) hx hb hts (by decide +kernel) hown hK hP 0 rfl rfl 1 (by decide) (hts (.fieldLink RX0 17 "StartSleep$Blocks" "copies" "[[B") (by decide +kernel)) (fun _ h9 => h9) rfl dX0_load_9 ?_
      refine lv_aload_n hx hb dX0_load_12 rfl (lv_at hl 0 rfl) ?_
      refine lv_iload_n hx hb dX0_load_13 rfl (lv_at hl 1 rfl) ?_
      refine my_ci (wr := [(hW, .inl (cB, 128, .inl w_)), (hC, .inl (cG, 2, .inr (.inr (.inr (.inr (my_two c0 c1)))))), (c0, .inl (cB, 128, .inl k0)), (c1, .inl (cB, 128, .inl k1)), (hN, .inl (cZ, 8, .inl h_))]) hP hD hS hA [0, 2, 3, 4] [1, 5, 6, 7, 8] (my_V (As := [.int (nI i)]) (rest := [.ref hC]) ⟨hx, hb, hml, hown, hts⟩ (c_Blocks_keptCopy l dC dI H.size cZ cB cI cG cJ hB hW hC hV hN v0 v1 g0 g1 (nI i) (vp_in_nI (by omega) (by decide))) (cwV 1 hts gX0_load_X0_keptCopy rfl rfl rfl (by decide +kernel) ⟨Nat.le_of_ble_eq_true rfl, Nat.le_of_ble_eq_true rfl⟩) hK hP hD [0, 2, 3, 4] rfl (by decide) rfl rfl rfl hl.1 rfl (Nat.le_of_ble_eq_true rfl) dX0_load_14 ⟨Nat.zero_le _, Nat.zero_le _⟩) rfl rfl (by decide) (by decide) (fun H locs hP hD hS => ?_)
      have hP : va_P (dC, dI) vwCl [(hW, .inl (cB, 128, .inl w_)), (hC, .inl (cG, 2, .inr (.inr (.inr (.inr (my_two c0 c1)))))), (c0, .inl (cB, 128, .inl k0)), (c1, .inl (cB, 128, .inl k1)), (hN, .inl (cZ, 8, .inl h_)), (hB, .inr (2, [.ref hW, .ref hC, .ref hV, .ref hN])), (hV, .inl (cJ, 2, .inr (.inr (.inr (.inr (my_two v0 v1)))))), (v0, .inl (cI, 8, .inl g0)), (v1, .inl (cI, 8, .inl g1))] H := hP
      have hD : va_D A [(hW, .inl (cB, 128, .inl w_)), (hC, .inl (cG, 2, .inr (.inr (.inr (.inr (my_two c0 c1)))))), (c0, .inl (cB, 128, .inl k0)), (c1, .inl (cB, 128, .inl k1)), (hN, .inl (cZ, 8, .inl h_)), (hB, .inr (2, [.ref hW, .ref hC, .ref hV, .ref hN])), (hV, .inl (cJ, 2, .inr (.inr (.inr (.inr (my_two v0 v1)))))), (v0, .inl (cI, 8, .inl g0)), (v1, .inl (cI, 8, .inl g1))] := hD
      rcases bl_kc_or g0 g1 (nI i) with hk_3 | hk_3
      · rw [hk_3]
        refine my_ald2 (v := c0) hx hb hK hP 1 3 rfl rfl (by unfold vp_in; decide) rfl dX0_load_17 ?_
        refine lv_iload_n hx hb dX0_load_18 rfl (lv_at hl 1 rfl) ?_
        refine lv_bipush (v := 16) hx hb dX0_load_19 (by decide) ?_
        refine lv_imul hx hb dX0_load_21 ?_
        refine lv_aload_n hx hb dX0_load_22 rfl (lv_at hl 0 rfl) ?_
        refine va_get (D := (dC, dI)) (ci := 2) (v := .ref hW) (C := RX0) (T := TX0) (N := 4) hx hb hts (by decide +kernel) hown hK hP 5 rfl rfl 0 (by decide) (hts (.fieldLink RX0 11 "StartSleep$Blocks" "working" "[B") (by decide +kernel)) (fun _ h9 => h9) rfl dX0_load_23 ?_
        refine lv_iload_n hx hb dX0_load_26 rfl (lv_at hl 1 rfl) ?_
        refine lv_bipush (v := 16) hx hb dX0_load_27 (by decide) ?_
        refine lv_imul hx hb dX0_load_29 ?_
        refine lv_bipush (v := 16) hx hb dX0_load_30 (by decide) ?_
        refine va_copyi hx hb (hml.trans hl.1.symm) hown (hts (.methodLink RX0 40 arraycopyName) (by decide +kernel)) (hts (.native arraycopyName) (by decide +kernel)) (hts (.static arraycopyName) (by decide +kernel)) (hts (.initialized "java/lang/System") (by decide +kernel)) hK hP hD hS 2 0 1 1 rfl rfl rfl rfl rfl (bl_n0 (bl_hasI (show i < 8 by omega))) (bl_n0 (bl_hasI (show i < 8 by omega))) (by decide) (bl_n128 (bl_hasI (show i < 8 by omega))) (bl_n128 (bl_hasI (show i < 8 by omega))) (fun i _ => my_by_fit h0 _) (Nat.le_of_ble_eq_true rfl) (Nat.le_of_ble_eq_true rfl) dX0_load_32 (fun H locs hP hD hS => ?_)
        have hP : va_P (dC, dI) vwCl [(hW, .inl (cB, 128, .inl (bl_row k0 w_ (nI i)))), (hC, .inl (cG, 2, .inr (.inr (.inr (.inr (my_two c0 c1)))))), (c0, .inl (cB, 128, .inl k0)), (c1, .inl (cB, 128, .inl k1)), (hN, .inl (cZ, 8, .inl h_)), (hB, .inr (2, [.ref hW, .ref hC, .ref hV, .ref hN])), (hV, .inl (cJ, 2, .inr (.inr (.inr (.inr (my_two v0 v1)))))), (v0, .inl (cI, 8, .inl g0)), (v1, .inl (cI, 8, .inl g1))] H := hP
        have hD : va_D A [(hW, .inl (cB, 128, .inl (bl_row k0 w_ (nI i)))), (hC, .inl (cG, 2, .inr (.inr (.inr (.inr (my_two c0 c1)))))), (c0, .inl (cB, 128, .inl k0)), (c1, .inl (cB, 128, .inl k1)), (hN, .inl (cZ, 8, .inl h_)), (hB, .inr (2, [.ref hW, .ref hC, .ref hV, .ref hN])), (hV, .inl (cJ, 2, .inr (.inr (.inr (.inr (my_two v0 v1)))))), (v0, .inl (cI, 8, .inl g0)), (v1, .inl (cI, 8, .inl g1))] := hD
        refine lv_aload_n hx hb dX0_load_35 rfl (lv_at hl 0 rfl) ?_
        refine va_get (D := (dC, dI)) (ci := 2) (v := .ref hN) (C := RX0) (T := TX0) (N := 4) hx hb hts (by decide +kernel) hown hK hP 5 rfl rfl 3 (by decide) (hts (.fieldLink RX0 25 "StartSleep$Blocks" "changed" "[Z") (by decide +kernel)) (fun _ h9 => h9) rfl dX0_load_36 ?_
        refine lv_iload_n hx hb dX0_load_39 rfl (lv_at hl 1 rfl) ?_
        refine lv_iconst (v := 0) hx hb dX0_load_40 (by decide) ?_
        refine va_zast hx hb hK hP hD hS 4 0 rfl rfl (vp_in_nI (by omega) (by decide)) dX0_load_41 (fun H locs hP hD hS => ?_)
        rw [nI_clamp (by omega)] at hP hD
        have hP : va_P (dC, dI) vwCl [(hW, .inl (cB, 128, .inl (bl_row k0 w_ (nI i)))), (hC, .inl (cG, 2, .inr (.inr (.inr (.inr (my_two c0 c1)))))), (c0, .inl (cB, 128, .inl k0)), (c1, .inl (cB, 128, .inl k1)), (hN, .inl (cZ, 8, .inl (upd h_ i (vp_nar .boolean 0)))), (hB, .inr (2, [.ref hW, .ref hC, .ref hV, .ref hN])), (hV, .inl (cJ, 2, .inr (.inr (.inr (.inr (my_two v0 v1)))))), (v0, .inl (cI, 8, .inl g0)), (v1, .inl (cI, 8, .inl g1))] H := hP
        have hD : va_D A [(hW, .inl (cB, 128, .inl (bl_row k0 w_ (nI i)))), (hC, .inl (cG, 2, .inr (.inr (.inr (.inr (my_two c0 c1)))))), (c0, .inl (cB, 128, .inl k0)), (c1, .inl (cB, 128, .inl k1)), (hN, .inl (cZ, 8, .inl (upd h_ i (vp_nar .boolean 0)))), (hB, .inr (2, [.ref hW, .ref hC, .ref hV, .ref hN])), (hV, .inl (cJ, 2, .inr (.inr (.inr (.inr (my_two v0 v1)))))), (v0, .inl (cI, 8, .inl g0)), (v1, .inl (cI, 8, .inl g1))] := hD
        refine lv_iinc (v := ((nI i) + 1)) (lv' := [(1, .int ((nI i) + 1)), (0, .ref hB)]) hx hb dX0_load_42 hl (k := 1) rfl rfl (by decide) rfl (fun ls hl => ?_)
        refine lv_goto (tgt := 2) hx hb dX0_load_45 (by decide) ?_
        rw [nI_1 i] at hl
        exact ih (i + 1) (bl_row k0 w_ (nI i)) (upd h_ i (vp_nar .boolean 0)) (by omega) (by rw [← hI]; simp [bl_load, hk_3]) _ _ ls (hP.sub [5, 0, 6, 7, 8, 1, 2, 3, 4] rfl) (hD.sub [5, 0, 6, 7, 8, 1, 2, 3, 4] (by decide) rfl) hS (lv_sub hl [1, 0] rfl)
      · rw [hk_3]
        refine my_ald2 (v := c1) hx hb hK hP 1 3 rfl rfl (by unfold vp_in; decide) rfl dX0_load_17 ?_
        refine lv_iload_n hx hb dX0_load_18 rfl (lv_at hl 1 rfl) ?_
        refine lv_bipush (v := 16) hx hb dX0_load_19 (by decide) ?_
        refine lv_imul hx hb dX0_load_21 ?_
        refine lv_aload_n hx hb dX0_load_22 rfl (lv_at hl 0 rfl) ?_
        refine va_get (D := (dC, dI)) (ci := 2) (v := .ref hW) (C := RX0) (T := TX0) (N := 4) hx hb hts (by decide +kernel) hown hK hP 5 rfl rfl 0 (by decide) (hts (.fieldLink RX0 11 "StartSleep$Blocks" "working" "[B") (by decide +kernel)) (fun _ h9 => h9) rfl dX0_load_23 ?_
        refine lv_iload_n hx hb dX0_load_26 rfl (lv_at hl 1 rfl) ?_
        refine lv_bipush (v := 16) hx hb dX0_load_27 (by decide) ?_
        refine lv_imul hx hb dX0_load_29 ?_
        refine lv_bipush (v := 16) hx hb dX0_load_30 (by decide) ?_
        refine va_copyi hx hb (hml.trans hl.1.symm) hown (hts (.methodLink RX0 40 arraycopyName) (by decide +kernel)) (hts (.native arraycopyName) (by decide +kernel)) (hts (.static arraycopyName) (by decide +kernel)) (hts (.initialized "java/lang/System") (by decide +kernel)) hK hP hD hS 3 0 1 1 rfl rfl rfl rfl rfl (bl_n0 (bl_hasI (show i < 8 by omega))) (bl_n0 (bl_hasI (show i < 8 by omega))) (by decide) (bl_n128 (bl_hasI (show i < 8 by omega))) (bl_n128 (bl_hasI (show i < 8 by omega))) (fun i _ => my_by_fit h1 _) (Nat.le_of_ble_eq_true rfl) (Nat.le_of_ble_eq_true rfl) dX0_load_32 (fun H locs hP hD hS => ?_)
        have hP : va_P (dC, dI) vwCl [(hW, .inl (cB, 128, .inl (bl_row k1 w_ (nI i)))), (hC, .inl (cG, 2, .inr (.inr (.inr (.inr (my_two c0 c1)))))), (c0, .inl (cB, 128, .inl k0)), (c1, .inl (cB, 128, .inl k1)), (hN, .inl (cZ, 8, .inl h_)), (hB, .inr (2, [.ref hW, .ref hC, .ref hV, .ref hN])), (hV, .inl (cJ, 2, .inr (.inr (.inr (.inr (my_two v0 v1)))))), (v0, .inl (cI, 8, .inl g0)), (v1, .inl (cI, 8, .inl g1))] H := hP
        have hD : va_D A [(hW, .inl (cB, 128, .inl (bl_row k1 w_ (nI i)))), (hC, .inl (cG, 2, .inr (.inr (.inr (.inr (my_two c0 c1)))))), (c0, .inl (cB, 128, .inl k0)), (c1, .inl (cB, 128, .inl k1)), (hN, .inl (cZ, 8, .inl h_)), (hB, .inr (2, [.ref hW, .ref hC, .ref hV, .ref hN])), (hV, .inl (cJ, 2, .inr (.inr (.inr (.inr (my_two v0 v1)))))), (v0, .inl (cI, 8, .inl g0)), (v1, .inl (cI, 8, .inl g1))] := hD
        refine lv_aload_n hx hb dX0_load_35 rfl (lv_at hl 0 rfl) ?_
        refine va_get (D := (dC, dI)) (ci := 2) (v := .ref hN) (C := RX0) (T := TX0) (N := 4) hx hb hts (by decide +kernel) hown hK hP 5 rfl rfl 3 (by decide) (hts (.fieldLink RX0 25 "StartSleep$Blocks" "changed" "[Z") (by decide +kernel)) (fun _ h9 => h9) rfl dX0_load_36 ?_
        refine lv_iload_n hx hb dX0_load_39 rfl (lv_at hl 1 rfl) ?_
        refine lv_iconst (v := 0) hx hb dX0_load_40 (by decide) ?_
        refine va_zast hx hb hK hP hD hS 4 0 rfl rfl (vp_in_nI (by omega) (by decide)) dX0_load_41 (fun H locs hP hD hS => ?_)
        rw [nI_clamp (by omega)] at hP hD
        have hP : va_P (dC, dI) vwCl [(hW, .inl (cB, 128, .inl (bl_row k1 w_ (nI i)))), (hC, .inl (cG, 2, .inr (.inr (.inr (.inr (my_two c0 c1)))))), (c0, .inl (cB, 128, .inl k0)), (c1, .inl (cB, 128, .inl k1)), (hN, .inl (cZ, 8, .inl (upd h_ i (vp_nar .boolean 0)))), (hB, .inr (2, [.ref hW, .ref hC, .ref hV, .ref hN])), (hV, .inl (cJ, 2, .inr (.inr (.inr (.inr (my_two v0 v1)))))), (v0, .inl (cI, 8, .inl g0)), (v1, .inl (cI, 8, .inl g1))] H := hP
        have hD : va_D A [(hW, .inl (cB, 128, .inl (bl_row k1 w_ (nI i)))), (hC, .inl (cG, 2, .inr (.inr (.inr (.inr (my_two c0 c1)))))), (c0, .inl (cB, 128, .inl k0)), (c1, .inl (cB, 128, .inl k1)), (hN, .inl (cZ, 8, .inl (upd h_ i (vp_nar .boolean 0)))), (hB, .inr (2, [.ref hW, .ref hC, .ref hV, .ref hN])), (hV, .inl (cJ, 2, .inr (.inr (.inr (.inr (my_two v0 v1)))))), (v0, .inl (cI, 8, .inl g0)), (v1, .inl (cI, 8, .inl g1))] := hD
        refine lv_iinc (v := ((nI i) + 1)) (lv' := [(1, .int ((nI i) + 1)), (0, .ref hB)]) hx hb dX0_load_42 hl (k := 1) rfl rfl (by decide) rfl (fun ls hl => ?_)
        refine lv_goto (tgt := 2) hx hb dX0_load_45 (by decide) ?_
        rw [nI_1 i] at hl
        exact ih (i + 1) (bl_row k1 w_ (nI i)) (upd h_ i (vp_nar .boolean 0)) (by omega) (by rw [← hI]; simp [bl_load, hk_3]) _ _ ls (hP.sub [5, 0, 6, 7, 8, 1, 2, 3, 4] rfl) (hD.sub [5, 0, 6, 7, 8, 1, 2, 3, 4] (by decide) rfl) hS (lv_sub hl [1, 0] rfl)
  exact loop 8 0 wk ch rfl rfl _ _ ls (hP.sub [0, 1, 2, 3, 4, 5, 6, 7, 8] rfl) (hD.sub [0, 1, 2, 3, 4, 5, 6, 7, 8] (by decide) rfl) hS (lv_sub hl [1, 0] rfl)
