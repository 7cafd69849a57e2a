/-! From the entry to the loop -/
def sm_x0 : ssS := (((0 : Int32), (-1 : Int64), (-1 : Int32), (0 : Int64), (fun _ => (0 : Int32)), (fun _ => (0 : Int32)), (fun _ => (0 : Int32)), (fun _ => (0 : Int32)), (fun _ => (0 : Int32))), (0 : Int64), (0 : Int32), (0 : Int32), (0 : Int64), (0 : Int64), (0 : Int64), (0 : Int64), (fun _ => (0 : Int32)), (0 : Int32), (fun _ => (0 : Int32)), (fun _ => (0 : Int32)), (fun _ => (0 : Int32)), (fun _ => (0 : Int32)), (0 : Int32), (fun _ => (0 : Int32)), (0 : Int32))
def sm_y0 : mmS := (((0 : Int32), (0 : Int64), (0 : Int64), (0 : Int32), (0 : Int64), (fun _ => (0 : Int32)), (fun _ => (0 : Int32)), (fun _ => (0 : Int32))), (0 : Int32), (0 : Int64), (fun _ => (0 : Int32)), (fun _ => (0 : Int32)), (fun _ => (0 : Int32)), (fun _ => (0 : Int32)), (fun _ => (0 : Int32)), (fun _ => (0 : Int32)), (0 : Int32), (0 : Int32), (0 : Int32), (0 : Int64), (0 : Int64), (0 : Int64), (0 : Int64))
theorem sm_0 : sm_Rel 0 sm_x0 sm_y0 := by
  refine ⟨⟨rfl, rfl, rfl, ⟨0, 0, rfl, rfl, Nat.le_refl _, Nat.le_refl _⟩, fun _ _ => ⟨rfl, rfl⟩, fun _ _ _ _ => ⟨rfl, rfl⟩, fun _ _ => rfl, fun h => absurd h (by decide), my_by_0, my_by_0, my_by_0⟩, ⟨?_, fun _ _ _ => ⟨rfl, Or.inl rfl⟩⟩, ⟨0, rfl, rfl, Nat.le_refl _⟩, ⟨fun _ _ => rfl, my_by_0⟩, ⟨rfl, rfl, rfl, rfl, rfl, rfl⟩, ⟨fun _ _ _ => ⟨⟨fun _ => rfl, fun _ => rfl⟩, fun h => absurd rfl h⟩, ?_⟩, ⟨0, by omega, rfl, rfl, fun j h => absurd h (Nat.not_lt_zero j)⟩⟩
  · decide +kernel
  · decide +kernel
theorem st_arr {a : Array Value} {s : State} {t : FieldType} (h : (Cond.arrayClass t).before a s = true) : ∃ c : ClassId, ArrOfT s c t ∧ s.vm.findClass ("[" ++ t.toString) = some c := by
  obtain ⟨c, k, comp, h1, h2, h3⟩ := Cond.arrayClass_spec h
  exact ⟨c, fun n z => ⟨(fun q hq => by cases hq), k, h2, comp, h3⟩, h1⟩
theorem st_K3 {dC : Nat → ClassId} {dI : Nat → Nat → Nat} {s : State} {a b c : ClassId} (h : ∀ (k : Nat) (q : vw_C), vwCl[k]? = some q → u_Kn s q.1 q.2.1 q.2.2 (dC k) (dI k)) (h1 : ArrOfT s a .boolean ∧ s.vm.findClass ("[" ++ FieldType.boolean.toString) = some a) (h2 : ArrOfT s b .byte ∧ s.vm.findClass ("[" ++ FieldType.byte.toString) = some b) (h3 : ArrOfT s c .int ∧ s.vm.findClass ("[" ++ FieldType.int.toString) = some c) : va_K (dC, dI) vwCl [(a, .boolean), (b, .byte), (c, .int)] s := by
  refine ⟨h, fun k q hq => ?_⟩
  match k, hq with
  | 0, hq => cases hq; exact h1
  | 1, hq => cases hq; exact h2
  | 2, hq => cases hq; exact h3
  | k + 3, hq => cases hq
set_option maxRecDepth 20000 in
theorem st_kn {a : Array Value} {s : State} (hts : ∀ w ∈ lw_tbl, w.before a s = true) : ∃ (dC : Nat → ClassId) (dI : Nat → Nat → Nat), ∀ (k : Nat) (q : vw_C), vwCl[k]? = some q → u_Kn s q.1 q.2.1 q.2.2 (dC k) (dI k) := by
  obtain ⟨c0, i0, h0⟩ := u_known (C := RJ0) (T := TJ0) (N := 2) (n := 4) hts inJ0 (hts (.instantiable RJ0 4) (by decide +kernel))
  obtain ⟨c1, i1, h1⟩ := u_known (C := RJx00060) (T := TJx00060) (N := 6) (n := 6) hts inJx00060 (hts (.instantiable RJx00060 6) (by decide +kernel))
  obtain ⟨c2, i2, h2⟩ := u_known (C := RX0) (T := TX0) (N := 4) (n := 4) hts inX0 (hts (.instantiable RX0 4) (by decide +kernel))
  obtain ⟨c3, i3, h3⟩ := u_known (C := RX1) (T := TX1) (N := 6) (n := 6) hts inX1 (hts (.instantiable RX1 6) (by decide +kernel))
  obtain ⟨c4, i4, h4⟩ := u_known (C := RX2) (T := TX2) (N := 2) (n := 2) hts inX2 (hts (.instantiable RX2 2) (by decide +kernel))
  obtain ⟨c5, i5, h5⟩ := u_known (C := RX3) (T := TX3) (N := 14) (n := 14) hts inX3 (hts (.instantiable RX3 14) (by decide +kernel))
  obtain ⟨c6, i6, h6⟩ := u_known (C := RX4) (T := TX4) (N := 23) (n := 23) hts inX4 (hts (.instantiable RX4 23) (by decide +kernel))
  refine ⟨fun k => match k with | 0 => c0 | 1 => c1 | 2 => c2 | 3 => c3 | 4 => c4 | 5 => c5 | _ => c6, fun k => match k with | 0 => i0 | 1 => i1 | 2 => i2 | 3 => i3 | 4 => i4 | 5 => i5 | _ => i6, ?_⟩
  intro k q hq
  match k, hq with
  | 0, hq => cases hq; exact h0
  | 1, hq => cases hq; exact h1
  | 2, hq => cases hq; exact h2
  | 3, hq => cases hq; exact h3
  | 4, hq => cases hq; exact h4
  | 5, hq => cases hq; exact h5
  | 6, hq => cases hq; exact h6
  | k + 7, hq => cases hq
theorem st_ZA {a : Array Value} {s : State} (hts : ∀ w ∈ lw_tbl, w.before a s = true) : my_ZA s := ⟨hts (.arrayOver (.array .byte)) (by decide +kernel), hts (.arrayOver (.array .int)) (by decide +kernel)⟩
set_option maxRecDepth 20000 in
theorem st_ZK {a : Array Value} {s : State} {A : Nat → Prop} (hts : ∀ w ∈ lw_tbl, w.before a s = true) (hgv : (Jvm.Cond.and given_1 narrow_1).before a s = true) (hA2 : ∀ q : Nat, A q → s.heap.size ≤ q) : ∃ sa : Nat, my_ZK A sa s s.heap := by
  have hs := flat_of_before _ hgv
  have hA : ∀ q : Nat, q < s.heap.size → ¬ A q := fun q h z => absurd (hA2 q z) (by omega)
  obtain ⟨sa, -, -, -, he, -⟩ := Cond.exactly_spec (hs (.exactly (.string "StartSleep" 126) "java/lang/String") (by decide +kernel))
  exact ⟨sa, vx_Zqof (hts (.laysStatic Bundle.tN "UNASSIGNED_STACK" Bundle.steD) (by decide +kernel)) (hts (.initialized Bundle.tN) (by decide +kernel)) (hs (.isRef (.static Bundle.tN "UNASSIGNED_STACK" Bundle.steD)) (by decide +kernel)) hA, vx_Zqof (hts (.laysStatic Bundle.tN "SUPPRESSED_SENTINEL" Bundle.listD) (by decide +kernel)) (hts (.initialized Bundle.tN) (by decide +kernel)) (hs (.isRef (.static Bundle.tN "SUPPRESSED_SENTINEL" Bundle.listD)) (by decide +kernel)) hA, vk_R.of (hts (.stringRef RX3 126 "no such block or octet") (by decide +kernel)) he, fun w hw => va_Nw.of (ax_on (ax_B_dc w hw)) (hts w (ax_B_tbl w hw))⟩
theorem my_zlong {n : Nat} (cA : ClassId) : vp_cell cA (n, .inr (.inl (fun _ => 0))) = arrV cA n (fun _ => defaultValue .long) := rfl
