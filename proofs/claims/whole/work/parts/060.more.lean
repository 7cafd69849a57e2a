/-! more rows of our own: reading an array of arrays; two rows; bytes -/
section MYA
variable {p : Program} {l : Launch} {e : Env} {R : Room} {s : State} {m : MethodId} {args : Array Value} {below : List Frame} {meth : Method} {c : Code} {H : Heap} {locs : List Loc} {cells slots : Nat} {Q : State → Prop}
variable {cc : ByteArray} {pc : Nat} {ls : Array Slot} {rest : List Value} {D : va_G} {cl : List vw_C} {a : Nat} {tys : List (ClassId × FieldType)} {ws : va_W}
theorem my_ald2 (hexec : p.tables.exec = Jvm.exec) (hb : c.code = cc) (hK : va_K D cl tys s) (hP : va_P D cl ws H) (q0 t0 : Nat) {cA : ClassId} {t : FieldType} {n : Nat} {f : Nat → Option Nat} (ha : ws[q0]? = some (a, .inl (cA, n, .inr (.inr (.inr (.inr f)))))) (ht : tys[t0]? = some (cA, .array t)) {i : Int32} (hin : vp_in i n) {v : Nat} (hv : f i.toNatClampNeg = some v) (hdg : decode cc pc = .ok (.aaload, 1))
    (kk : W p l e R s m args below meth c H locs cells slots Q (F0 m (pc + 1) ls (.ref v :: rest))) : W p l e R s m args below meth c H locs cells slots Q (F0 m pc ls (.int i :: .ref a :: rest)) := by
  have hlt : i.toNatClampNeg < n := Nat.not_le.mp fun q => hin (Or.inr q)
  exact W.aald (v := .ref v) (ty := .array t) hexec hb (hP q0 _ ha) ((hK.2 t0 _ ht).1 n (fun j => va_rf (f j))) rfl (fun q => by cases q) (by show ¬ (i < 0 ∨ (arrV _ _ _).slots.size ≤ _); rw [arrV_size]; exact hin) (by show (arrV _ _ _).slots[_]? = _; rw [arrV_read _ _ hlt, hv]; rfl) rfl rfl hdg kk
end MYA
def my_two (x y : Nat) : Nat → Option Nat := fun i => if i < 2 then some (if i = 0 then x else y) else none
def my_by (f : Nat → Int32) : Prop := ∀ k, (f k).toInt8.toInt32 = f k
theorem my_by_fit {f : Nat → Int32} (h : my_by f) (k : Nat) : fits .byte (.int (f k)) = true := by rw [← h k]; exact pk_fb _
theorem my_by_nar {f : Nat → Int32} (h : my_by f) (k : Nat) : narrow .byte (.int (f k)) = .int (f k) := congrArg Value.int (h k)
theorem my_by_upd {f : Nat → Int32} (h : my_by f) (k : Nat) (x : Int32) : my_by (upd f k (vp_nar .byte x)) := by
  intro j
  unfold upd
  by_cases e : j = k
  · simp only [e, if_true, vp_nar_byte]; simp
  · simp only [e, if_false]; exact h j
theorem my_by_cpy {f g : Nat → Int32} (hf : my_by f) (hg : my_by g) (a b n : Nat) : my_by (va_cpy f g a b n) := by
  intro j
  unfold va_cpy
  split
  · exact hf _
  · exact hg _
theorem my_by_0 : my_by (fun _ => 0) := fun _ => rfl
/-! Blocks -/
def bl_has (x : Int32) : Int32 := if x < 0 then 0 else if 8 ≤ x then 0 else 1
def bl_oct (x : Int32) : Int32 := if x < 0 then 0 else if 16 ≤ x then 0 else 1
theorem bl_has_nI {x : Int32} (h : ¬ bl_has x = 0) : ∃ j : Nat, j < 8 ∧ x = nI j := by
  unfold bl_has at h
  by_cases h1 : x < 0
  · simp [h1] at h
  · by_cases h2 : 8 ≤ x
    · simp [h1, h2] at h
    · rcases pk_ix x (n := 8) (by decide) with q | q | q
      · exact absurd q h1
      · exact absurd q h2
      · exact q
theorem bl_oct_nI {x : Int32} (h : ¬ bl_oct x = 0) : ∃ j : Nat, j < 16 ∧ x = nI j := by
  unfold bl_oct at h
  by_cases h1 : x < 0
  · simp [h1] at h
  · by_cases h2 : 16 ≤ x
    · simp [h1, h2] at h
    · rcases pk_ix x (n := 16) (by decide) with q | q | q
      · exact absurd q h1
      · exact absurd q h2
      · exact q
theorem bl_has_in {x : Int32} (h : ¬ bl_has x = 0) : vp_in x 8 := by
  obtain ⟨j, hj, rfl⟩ := bl_has_nI h
  exact vp_in_nI hj (by decide)
theorem bl_16 (j : Nat) : nI j * 16 = nI (j * 16) := pk_mul j 16
theorem bl_ix {n i : Int32} (h : ¬ bl_has n = 0) (h2 : ¬ bl_oct i = 0) : vp_in (n * 16 + i) 128 := by
  obtain ⟨j, hj, rfl⟩ := bl_has_nI h
  obtain ⟨k, hk, rfl⟩ := bl_oct_nI h2
  rw [bl_16, nI_add]
  exact vp_in_nI (by omega) (by decide)
theorem bl_n0 {n : Int32} (h : ¬ bl_has n = 0) : ¬ n * 16 < 0 := by
  obtain ⟨j, hj, rfl⟩ := bl_has_nI h
  rw [bl_16]
  exact nI_pos (by omega)
theorem bl_n128 {n : Int32} (h : ¬ bl_has n = 0) : (n * 16).toNatClampNeg + (16 : Int32).toNatClampNeg ≤ 128 := by
  obtain ⟨j, hj, rfl⟩ := bl_has_nI h
  rw [bl_16, nI_clamp (by omega)]
  have : (16 : Int32).toNatClampNeg = 16 := by decide
  omega
theorem bl_hasI {i : Nat} (h : i < 8) : ¬ bl_has (nI i) = 0 := by
  unfold bl_has
  have h8 : ¬ (8 : Int32) ≤ nI i := nI_ge (b := 8) h (by decide)
  rw [if_neg (nI_pos (by omega)), if_neg h8]
  decide
def bl_is (ch : Nat → Int32) (n : Int32) : Int32 := if bl_has n = 0 then 0 else if ch (n.toNatClampNeg) = 0 then 0 else 1
def bl_cnt (ch : Nat → Int32) : Nat → Nat → Int32 → Int32
  | 0, _, a => a
  | k + 1, i, a => bl_cnt ch k (i + 1) (if ch i = 0 then a else a + 1)
def bl_fst (ch : Nat → Int32) : Nat → Nat → Int32
  | 0, _ => -1
  | k + 1, i => if ch i = 0 then bl_fst ch k (i + 1) else nI i
def bl_put (wk ch : Nat → Int32) (n i b : Int32) : (Nat → Int32) × (Nat → Int32) := if bl_has n = 0 then (wk, ch) else if bl_oct i = 0 then (wk, ch) else (upd wk ((n * 16 + i).toNatClampNeg) (vp_nar .byte b), upd ch (n.toNatClampNeg) (vp_nar .boolean 1))
def bl_kc (g0 g1 : Nat → Int32) (n : Int32) : Int32 := if g1 (n.toNatClampNeg) ≤ g0 (n.toNatClampNeg) then 0 else 1
theorem bl_kc_or (g0 g1 : Nat → Int32) (n : Int32) : bl_kc g0 g1 n = 0 ∨ bl_kc g0 g1 n = 1 := by
  unfold bl_kc
  split
  · exact Or.inl rfl
  · exact Or.inr rfl
def bl_kept (k0 k1 g0 g1 : Nat → Int32) (n i : Int32) : Int32 := if bl_has n = 0 then 0 else if bl_oct i = 0 then 0 else if bl_kc g0 g1 n = 0 then k0 ((n * 16 + i).toNatClampNeg) else k1 ((n * 16 + i).toNatClampNeg)
def bl_tear (g0 g1 : Nat → Int32) (n : Int32) : (Nat → Int32) × (Nat → Int32) := if bl_has n = 0 then (g0, g1) else if bl_kc g0 g1 n = 0 then (g0, upd g1 (n.toNatClampNeg) 0) else (upd g0 (n.toNatClampNeg) 0, g1)
def bl_row (wk k : Nat → Int32) (n : Int32) : Nat → Int32 := va_cpy wk k ((n * 16).toNatClampNeg) ((n * 16).toNatClampNeg) ((16 : Int32).toNatClampNeg)
def bl_save (wk k0 k1 g0 g1 ch : Nat → Int32) (n : Int32) : (Nat → Int32) × (Nat → Int32) × (Nat → Int32) × (Nat → Int32) × (Nat → Int32) :=
  if bl_has n = 0 then (k0, k1, g0, g1, ch) else if bl_kc g0 g1 n = 0 then (k0, bl_row wk k1 n, g0, upd g1 (n.toNatClampNeg) (g0 (n.toNatClampNeg) + 1), upd ch (n.toNatClampNeg) (vp_nar .boolean 0))
  else (bl_row wk k0 n, k1, upd g0 (n.toNatClampNeg) (g1 (n.toNatClampNeg) + 1), g1, upd ch (n.toNatClampNeg) (vp_nar .boolean 0))
def bl_load (k0 k1 g0 g1 : Nat → Int32) : Nat → Nat → (Nat → Int32) → (Nat → Int32) → (Nat → Int32) × (Nat → Int32)
  | 0, _, wk, ch => (wk, ch)
  | k + 1, i, wk, ch => bl_load k0 k1 g0 g1 k (i + 1) (bl_row (if bl_kc g0 g1 (nI i) = 0 then k0 else k1) wk (nI i)) (upd ch i (vp_nar .boolean 0))
